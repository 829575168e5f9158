/-- what stays while one body runs: program, launch, env, room, state at entry, method, arguments, frames below, method's record, code -/
abbrev zv_C : Type := Program × Launch × Env × Room × State × MethodId × Array Value × List Frame × Method × Code
/-- what stays while the law runs: its first heap, class numbers and slots, array classes -/
abbrev zv_D : Type := Heap × va_G × (Nat → ClassId)
abbrev zv_M : Type := Nat → Option va_E
def zv_tys (Δ : zv_D) : List (ClassId × FieldType) := zp_tys.mapIdx (fun k t => (Δ.2.2 k, t))
def zv_H (Δ : zv_D) (hp : zv_M) (sz : Nat) (H : Heap) : Prop :=
  H.size = sz ∧ Δ.1.size ≤ sz ∧ (∀ q : Nat, q < Δ.1.size → H[q]? = Δ.1[q]?) ∧ ∀ (a : Nat) (e : va_E), hp a = some e → Δ.1.size ≤ a ∧ va_at Δ.2.1 zp_classes (a, e) H
theorem zv_H.lt {Δ : zv_D} {hp : zv_M} {sz : Nat} {H : Heap} (h : zv_H Δ hp sz H) : ∀ (a : Nat) (e : va_E), hp a = some e → a < sz := fun a e he => by
  have := (h.2.2.2 a e he).2.lt
  rw [h.1] at this
  exact this
theorem zv_H.put {Δ : zv_D} {hp : zv_M} {sz : Nat} {H H1 : Heap} (h : zv_H Δ hp sz H) {a : Nat} {e0 e : va_E} (ha : hp a = some e0) (h1 : va_at Δ.2.1 zp_classes (a, e) H1) (hz : H1.size = H.size) (ho : ∀ q : Nat, q ≠ a → H1[q]? = H[q]?) : zv_H Δ (va_up hp a (some e)) sz H1 := by
  refine ⟨hz.trans h.1, h.2.1, fun q hq => ?_, fun b eb hb => ?_⟩
  · have hne : q ≠ a := fun x => by
      have := (h.2.2.2 a e0 ha).1
      omega
    rw [ho q hne]
    exact h.2.2.1 q hq
  · by_cases hba : b = a
    · subst hba
      simp only [va_up, if_true] at hb
      cases hb
      exact ⟨(h.2.2.2 b e0 ha).1, h1⟩
    · simp only [va_up, hba, if_false] at hb
      exact ⟨(h.2.2.2 b eb hb).1, (h.2.2.2 b eb hb).2.kept (ho b hba)⟩
theorem zv_H.push {Δ : zv_D} {hp : zv_M} {sz : Nat} {H H1 : Heap} (h : zv_H Δ hp sz H) {e : va_E} (h1 : va_at Δ.2.1 zp_classes (sz, e) H1) (hz : H1.size = sz + 1) (ho : ∀ q : Nat, q < sz → H1[q]? = H[q]?) : zv_H Δ (va_up hp sz (some e)) (sz + 1) H1 := by
  have hzs := h.2.1
  refine ⟨hz, by omega, fun q hq => ?_, fun b eb hb => ?_⟩
  · rw [ho q (by omega)]
    exact h.2.2.1 q hq
  · by_cases hba : b = sz
    · subst hba
      simp only [va_up, if_true] at hb
      cases hb
      exact ⟨hzs, h1⟩
    · simp only [va_up, hba, if_false] at hb
      exact ⟨(h.2.2.2 b eb hb).1, (h.2.2.2 b eb hb).2.kept (ho b (h.lt b eb hb))⟩
def zv_isN : Cond → Bool
  | .fieldLinkNest .. => true
  | .methodLinkNest .. => true
  | .castable .. => true
  | _ => false
theorem zp_Nk : ∀ w ∈ zp_N, zv_isN w = true := by decide +kernel
theorem zv_N_warm {w : Cond} {s U : State} (h : zv_isN w = true) (hW : s.WarmedH U.vm) (hZ : va_Nw w s) : va_Nw w U := by
  cases w <;> first | exact va_Nw.warmF hW hZ | exact va_Nw.warmM hW hZ | exact va_Nw.warmC hW hZ | exact (Bool.false_ne_true h).elim
theorem zv_N_same {w : Cond} {s U : State} (h : zv_isN w = true) (hW : s.vm = U.vm) (hZ : va_Nw w s) : va_Nw w U := by
  cases w <;> first | exact va_Nw.same rfl hW hZ | exact (Bool.false_ne_true h).elim
def zv_T (Δ : zv_D) (U : State) : Prop := va_K Δ.2.1 zp_classes (zv_tys Δ) U ∧ (∀ w ∈ zp_N, va_Nw w U) ∧ (∀ q ∈ zp_F, va_Fw q.1 q.2.1 q.2.2 U) ∧ ∀ C ∈ zp_A, va_AO C U
theorem zv_T.warm {Δ : zv_D} {s U : State} (hW : s.WarmedH U.vm) (h : zv_T Δ s) : zv_T Δ U :=
  ⟨va_K.moved hW.alike h.1, fun w hw => zv_N_warm (zp_Nk w hw) hW (h.2.1 w hw), fun q hq => va_Fw.moved (zp_Fk q hq) hW.alike (h.2.2.1 q hq), fun C hC => va_AO.moved hW.alike (h.2.2.2 C hC)⟩
theorem zv_T.same {Δ : zv_D} {s U : State} (hW : s.vm = U.vm) (h : zv_T Δ s) : zv_T Δ U :=
  have hA : s.vm.Alike U.vm := hW ▸ Vm.Alike.refl s.vm
  ⟨va_K.moved hA h.1, fun w hw => zv_N_same (zp_Nk w hw) hW (h.2.1 w hw), fun q hq => va_Fw.moved (zp_Fk q hq) hA (h.2.2.1 q hq), fun C hC => va_AO.moved hA (h.2.2.2 C hC)⟩
/-- the locals -/
def zv_L (lv : List (Option Value)) (ls : Array Slot) : Prop := ls.size = lv.length ∧ lv_wf ls ∧ ∀ (i : Nat) (v : Value), lv[i]? = some (some v) → ls[i]? = some (.val v)
def zv_prs (lv : List (Option Value)) : List (Nat × Value) := (List.range lv.length).filterMap (fun i => (lv[i]?.bind id).map (fun v => (i, v)))
theorem zv_prs_mem {lv : List (Option Value)} {i : Nat} {v : Value} (h : lv[i]? = some (some v)) : (i, v) ∈ zv_prs lv := by
  refine List.mem_filterMap.mpr ⟨i, List.mem_range.mpr (List.getElem?_eq_some_iff.mp h).1, ?_⟩
  rw [h]
  rfl
theorem zv_prs_of {lv : List (Option Value)} {q : Nat × Value} (h : q ∈ zv_prs lv) : lv[q.1]? = some (some q.2) := by
  obtain ⟨i, -, hi⟩ := List.mem_filterMap.mp h
  cases hx : lv[i]? with
  | none => rw [hx] at hi; cases hi
  | some w =>
    cases w with
    | none => rw [hx] at hi; cases hi
    | some v =>
      rw [hx] at hi
      cases hi
      exact hx
theorem zv_L.has {lv : List (Option Value)} {ls : Array Slot} (h : zv_L lv ls) : lv_has ls lv.length (zv_prs lv) := ⟨h.1, h.2.1, fun q hq => h.2.2 q.1 q.2 (zv_prs_of hq)⟩
def zv_kill (lv : List (Option Value)) : Nat → List (Option Value)
  | 0 => lv
  | j + 1 => match lv[j]? with
    | some (some (.long _)) => lv.set j none
    | some (some (.double _)) => lv.set j none
    | _ => lv
theorem zv_kill_len (lv : List (Option Value)) (i : Nat) : (zv_kill lv i).length = lv.length := by
  cases i with
  | zero => rfl
  | succ j => simp only [zv_kill]; split <;> simp
theorem zv_kill_at {lv : List (Option Value)} {i j : Nat} {v : Value} (h : (zv_kill lv i)[j]? = some (some v)) : lv[j]? = some (some v) ∧ ¬ (j + 1 = i ∧ v.category = 2) := by
  cases i with
  | zero => exact ⟨h, fun q => by omega⟩
  | succ k =>
    have key : ∀ l2 : List (Option Value), l2 = lv.set k none → l2[j]? = some (some v) → lv[j]? = some (some v) ∧ ¬ (j + 1 = k + 1 ∧ v.category = 2) := by
      intro l2 e h2
      subst e
      by_cases hj : j = k
      · subst hj
        by_cases hl : j < lv.length
        · rw [List.getElem?_set_self hl] at h2; cases h2
        · rw [List.getElem?_eq_none (by simpa using hl)] at h2; cases h2
      · rw [List.getElem?_set_ne (Ne.symm hj)] at h2
        exact ⟨h2, fun q => hj (by omega)⟩
    cases hx : lv[k]? with
    | none =>
      have e : zv_kill lv (k + 1) = lv := by simp only [zv_kill, hx]
      rw [e] at h
      refine ⟨h, fun q => ?_⟩
      have hj : j = k := by omega
      rw [hj, hx] at h
      cases h
    | some w =>
      cases w with
      | none =>
        have e : zv_kill lv (k + 1) = lv := by simp only [zv_kill, hx]
        rw [e] at h
        refine ⟨h, fun q => ?_⟩
        have hj : j = k := by omega
        rw [hj, hx] at h
        cases h
      | some w =>
        by_cases h2 : w.category = 2
        · have e : zv_kill lv (k + 1) = lv.set k none := by cases w <;> first | (simp only [zv_kill, hx]; done) | (exact absurd h2 (by simp [Value.category]))
          exact key _ e h
        · have e : zv_kill lv (k + 1) = lv := by cases w <;> first | (simp only [zv_kill, hx]; done) | (exact absurd rfl h2)
          rw [e] at h
          refine ⟨h, fun q => ?_⟩
          have hj : j = k := by omega
          rw [hj, hx] at h
          cases h
          exact h2 q.2
/-- a value of one slot is stored, a value of two -/
def zv_s1 (lv : List (Option Value)) (i : Nat) (v : Value) : List (Option Value) := (zv_kill lv i).set i (some v)
def zv_s2 (lv : List (Option Value)) (i : Nat) (v : Value) : List (Option Value) := ((zv_kill lv i).set i (some v)).set (i + 1) none
theorem zv_s1_has {lv : List (Option Value)} {i : Nat} {v : Value} {ls : Array Slot} (h : lv_has ls lv.length ((i, v) :: (zv_prs lv).filter (fun q => !(q.1 == i) && !(q.1 + 1 == i && q.2.category == 2)))) : zv_L (zv_s1 lv i v) ls := by
  refine ⟨by rw [h.1]; simp [zv_s1, zv_kill_len], h.2.1, fun j w hj => ?_⟩
  by_cases hji : j = i
  · subst hji
    have hl : j < (zv_kill lv j).length := by
      have := (List.getElem?_eq_some_iff.mp hj).1
      simpa [zv_s1] using this
    rw [zv_s1, List.getElem?_set_self hl] at hj
    cases hj
    exact h.2.2 (j, v) List.mem_cons_self
  · rw [zv_s1, List.getElem?_set_ne (Ne.symm hji)] at hj
    obtain ⟨h1, h2⟩ := zv_kill_at hj
    refine h.2.2 (j, w) (List.mem_cons_of_mem _ (List.mem_filter.mpr ⟨zv_prs_mem h1, ?_⟩))
    simp only [Bool.and_eq_true, Bool.not_eq_true', beq_eq_false_iff_ne, ne_eq, Bool.and_eq_false_iff]
    refine ⟨hji, ?_⟩
    by_cases h3 : j + 1 = i
    · exact Or.inr (fun h4 => h2 ⟨h3, h4⟩)
    · exact Or.inl h3
theorem zv_s2_has {lv : List (Option Value)} {i : Nat} {v : Value} {ls : Array Slot} (h : lv_has ls lv.length ((i, v) :: (zv_prs lv).filter (fun q => !(q.1 == i) && (!(q.1 == i + 1) && !(q.1 + 1 == i && q.2.category == 2))))) : zv_L (zv_s2 lv i v) ls := by
  refine ⟨by rw [h.1]; simp [zv_s2, zv_kill_len], h.2.1, fun j w hj => ?_⟩
  by_cases hj1 : j = i + 1
  · subst hj1
    by_cases hl : i + 1 < ((zv_kill lv i).set i (some v)).length
    · rw [zv_s2, List.getElem?_set_self hl] at hj; cases hj
    · rw [zv_s2, List.getElem?_eq_none (by simpa using hl)] at hj; cases hj
  rw [zv_s2, List.getElem?_set_ne (Ne.symm hj1)] at hj
  by_cases hji : j = i
  · subst hji
    have hl : j < (zv_kill lv j).length := by
      have := (List.getElem?_eq_some_iff.mp hj).1
      simpa using this
    rw [List.getElem?_set_self hl] at hj
    cases hj
    exact h.2.2 (j, v) List.mem_cons_self
  · rw [List.getElem?_set_ne (Ne.symm hji)] at hj
    obtain ⟨h1, h2⟩ := zv_kill_at hj
    refine h.2.2 (j, w) (List.mem_cons_of_mem _ (List.mem_filter.mpr ⟨zv_prs_mem h1, ?_⟩))
    simp only [Bool.and_eq_true, Bool.not_eq_true', beq_eq_false_iff_ne, ne_eq, Bool.and_eq_false_iff]
    refine ⟨hji, hj1, ?_⟩
    by_cases h3 : j + 1 = i
    · exact Or.inr (fun h4 => h2 ⟨h3, h4⟩)
    · exact Or.inl h3
/-- what is known of a class: its fields' types, and that their names differ -/
def zv_cls (ci : Nat) (C : String) (T : u_T) (N : Nat) : Prop := zp_classes[ci]? = some (C, T, N) ∧ (∀ w ∈ u_ws C T N, w ∈ zp_G) ∧ (∃ ty : Nat → FieldType, ∀ k, k < N → parseFieldDescriptor (T k).2.2.1 = some (ty k)) ∧ ∀ a, a < N → ∀ b, b < N → a ≠ b → (T a).2.1 ≠ (T b).2.1
/-- the judgement: from every heap that the picture describes the machine comes to a state with Q -/
def zv_V (Δ : zv_D) (Γ : zv_C) (Q : State → Prop) (pc : Nat) (lv : List (Option Value)) (st : List Value) (hp : zv_M) (sz ce sl : Nat) : Prop :=
  ∀ (H : Heap) (locs : List Loc) (ls : Array Slot), zv_H Δ hp sz H → (∀ q ∈ locs, Δ.1.size ≤ q.base) → zv_L lv ls →
    W Γ.1 Γ.2.1 Γ.2.2.1 Γ.2.2.2.1 Γ.2.2.2.2.1 Γ.2.2.2.2.2.1 Γ.2.2.2.2.2.2.1 Γ.2.2.2.2.2.2.2.1 Γ.2.2.2.2.2.2.2.2.1 Γ.2.2.2.2.2.2.2.2.2 H locs ce sl Q (F0 Γ.2.2.2.2.2.1 pc ls st)
/-- what a body knows of itself -/
def zv_F (Δ : zv_D) (Γ : zv_C) (own nm : String) (cc : ByteArray) (nL : Nat) (ret : Option FieldType) (R : Room) : Prop :=
  Γ.1.tables.exec = Jvm.exec ∧ Γ.2.2.2.2.2.2.2.2.2.code = cc ∧ Γ.2.2.2.2.2.2.2.2.2.maxLocals = nL ∧ Γ.2.2.2.2.1.vm.findClass own = some Γ.2.2.2.2.2.1.cls ∧ (∀ w ∈ zp_G, w.before Γ.2.2.2.2.2.2.1 Γ.2.2.2.2.1 = true) ∧ zv_T Δ Γ.2.2.2.2.1 ∧ Γ.2.2.2.2.2.2.2.2.1.sig.returnType = ret ∧ Γ.2.2.2.2.2.2.2.2.1.locks = false ∧ Γ.2.2.2.2.2.2.2.2.1.name = nm ∧ Γ.2.2.2.1 = R
section ZV
variable {Δ : zv_D} {Γ : zv_C} {Q : State → Prop} {own nm : String} {cc : ByteArray} {nL : Nat} {ret : Option FieldType} {R : Room} {pc : Nat} {lv : List (Option Value)} {st : List Value} {hp : zv_M} {sz ce sl : Nat}
theorem zv_iadd (F : zv_F Δ Γ own nm cc nL ret R) {x y : Int32} (hd : decode cc pc = .ok (.iadd, 1)) (k : zv_V Δ Γ Q (pc + 1) lv (.int (x + y) :: st) hp sz ce sl) : zv_V Δ Γ Q (pc) lv (.int y :: .int x :: st) hp sz ce sl := by
  obtain ⟨p, l, e, R0, s, m, args, below, meth, c⟩ := Γ
  obtain ⟨hx, hb, hml, hown, hts, hT, hr, hlk, hnm, hR⟩ := F
  intro H locs ls hH hlo hL
  exact lv_iadd hx hb hd (k H locs ls hH hlo hL)
theorem zv_isub (F : zv_F Δ Γ own nm cc nL ret R) {x y : Int32} (hd : decode cc pc = .ok (.isub, 1)) (k : zv_V Δ Γ Q (pc + 1) lv (.int (x - y) :: st) hp sz ce sl) : zv_V Δ Γ Q (pc) lv (.int y :: .int x :: st) hp sz ce sl := by
  obtain ⟨p, l, e, R0, s, m, args, below, meth, c⟩ := Γ
  obtain ⟨hx, hb, hml, hown, hts, hT, hr, hlk, hnm, hR⟩ := F
  intro H locs ls hH hlo hL
  exact lv_isub hx hb hd (k H locs ls hH hlo hL)
theorem zv_imul (F : zv_F Δ Γ own nm cc nL ret R) {x y : Int32} (hd : decode cc pc = .ok (.imul, 1)) (k : zv_V Δ Γ Q (pc + 1) lv (.int (x * y) :: st) hp sz ce sl) : zv_V Δ Γ Q (pc) lv (.int y :: .int x :: st) hp sz ce sl := by
  obtain ⟨p, l, e, R0, s, m, args, below, meth, c⟩ := Γ
  obtain ⟨hx, hb, hml, hown, hts, hT, hr, hlk, hnm, hR⟩ := F
  intro H locs ls hH hlo hL
  exact lv_imul hx hb hd (k H locs ls hH hlo hL)
theorem zv_iand (F : zv_F Δ Γ own nm cc nL ret R) {x y : Int32} (hd : decode cc pc = .ok (.iand, 1)) (k : zv_V Δ Γ Q (pc + 1) lv (.int (x &&& y) :: st) hp sz ce sl) : zv_V Δ Γ Q (pc) lv (.int y :: .int x :: st) hp sz ce sl := by
  obtain ⟨p, l, e, R0, s, m, args, below, meth, c⟩ := Γ
  obtain ⟨hx, hb, hml, hown, hts, hT, hr, hlk, hnm, hR⟩ := F
  intro H locs ls hH hlo hL
  exact lv_iand hx hb hd (k H locs ls hH hlo hL)
theorem zv_ior (F : zv_F Δ Γ own nm cc nL ret R) {x y : Int32} (hd : decode cc pc = .ok (.ior, 1)) (k : zv_V Δ Γ Q (pc + 1) lv (.int (x ||| y) :: st) hp sz ce sl) : zv_V Δ Γ Q (pc) lv (.int y :: .int x :: st) hp sz ce sl := by
  obtain ⟨p, l, e, R0, s, m, args, below, meth, c⟩ := Γ
  obtain ⟨hx, hb, hml, hown, hts, hT, hr, hlk, hnm, hR⟩ := F
  intro H locs ls hH hlo hL
  exact lv_ior hx hb hd (k H locs ls hH hlo hL)
theorem zv_ixor (F : zv_F Δ Γ own nm cc nL ret R) {x y : Int32} (hd : decode cc pc = .ok (.ixor, 1)) (k : zv_V Δ Γ Q (pc + 1) lv (.int (x ^^^ y) :: st) hp sz ce sl) : zv_V Δ Γ Q (pc) lv (.int y :: .int x :: st) hp sz ce sl := by
  obtain ⟨p, l, e, R0, s, m, args, below, meth, c⟩ := Γ
  obtain ⟨hx, hb, hml, hown, hts, hT, hr, hlk, hnm, hR⟩ := F
  intro H locs ls hH hlo hL
  exact lv_ixor hx hb hd (k H locs ls hH hlo hL)
theorem zv_ishl (F : zv_F Δ Γ own nm cc nL ret R) {x y : Int32} (hd : decode cc pc = .ok (.ishl, 1)) (k : zv_V Δ Γ Q (pc + 1) lv (.int (x <<< (y &&& 31)) :: st) hp sz ce sl) : zv_V Δ Γ Q (pc) lv (.int y :: .int x :: st) hp sz ce sl := by
  obtain ⟨p, l, e, R0, s, m, args, below, meth, c⟩ := Γ
  obtain ⟨hx, hb, hml, hown, hts, hT, hr, hlk, hnm, hR⟩ := F
  intro H locs ls hH hlo hL
  exact lv_ishl hx hb hd (k H locs ls hH hlo hL)
theorem zv_ishr (F : zv_F Δ Γ own nm cc nL ret R) {x y : Int32} (hd : decode cc pc = .ok (.ishr, 1)) (k : zv_V Δ Γ Q (pc + 1) lv (.int (x >>> (y &&& 31)) :: st) hp sz ce sl) : zv_V Δ Γ Q (pc) lv (.int y :: .int x :: st) hp sz ce sl := by
  obtain ⟨p, l, e, R0, s, m, args, below, meth, c⟩ := Γ
  obtain ⟨hx, hb, hml, hown, hts, hT, hr, hlk, hnm, hR⟩ := F
  intro H locs ls hH hlo hL
  exact lv_ishr hx hb hd (k H locs ls hH hlo hL)
theorem zv_idiv (F : zv_F Δ Γ own nm cc nL ret R) {x y : Int32} (hd : decode cc pc = .ok (.idiv, 1)) (hne : ¬ y = 0) (k : zv_V Δ Γ Q (pc + 1) lv (.int (x / y) :: st) hp sz ce sl) : zv_V Δ Γ Q (pc) lv (.int y :: .int x :: st) hp sz ce sl := by
  obtain ⟨p, l, e, R0, s, m, args, below, meth, c⟩ := Γ
  obtain ⟨hx, hb, hml, hown, hts, hT, hr, hlk, hnm, hR⟩ := F
  intro H locs ls hH hlo hL
  exact lv_idiv hx hb hd hne (k H locs ls hH hlo hL)
theorem zv_irem (F : zv_F Δ Γ own nm cc nL ret R) {x y : Int32} (hd : decode cc pc = .ok (.irem, 1)) (hne : ¬ y = 0) (k : zv_V Δ Γ Q (pc + 1) lv (.int (x - x / y * y) :: st) hp sz ce sl) : zv_V Δ Γ Q (pc) lv (.int y :: .int x :: st) hp sz ce sl := by
  obtain ⟨p, l, e, R0, s, m, args, below, meth, c⟩ := Γ
  obtain ⟨hx, hb, hml, hown, hts, hT, hr, hlk, hnm, hR⟩ := F
  intro H locs ls hH hlo hL
  exact lv_irem hx hb hd hne (k H locs ls hH hlo hL)
theorem zv_ineg (F : zv_F Δ Γ own nm cc nL ret R) {x : Int32} (hd : decode cc pc = .ok (.ineg, 1)) (k : zv_V Δ Γ Q (pc + 1) lv (.int (-x) :: st) hp sz ce sl) : zv_V Δ Γ Q (pc) lv (.int x :: st) hp sz ce sl := by
  obtain ⟨p, l, e, R0, s, m, args, below, meth, c⟩ := Γ
  obtain ⟨hx, hb, hml, hown, hts, hT, hr, hlk, hnm, hR⟩ := F
  intro H locs ls hH hlo hL
  exact lv_ineg hx hb hd (k H locs ls hH hlo hL)
theorem zv_iushr (F : zv_F Δ Γ own nm cc nL ret R) {x y : Int32} (hd : decode cc pc = .ok (.iushr, 1)) (k : zv_V Δ Γ Q (pc + 1) lv (.int ((x.toUInt32 >>> (y.toUInt32 &&& Int32.toUInt32 31)).toInt32) :: st) hp sz ce sl) : zv_V Δ Γ Q (pc) lv (.int y :: .int x :: st) hp sz ce sl := by
  obtain ⟨p, l, e, R0, s, m, args, below, meth, c⟩ := Γ
  obtain ⟨hx, hb, hml, hown, hts, hT, hr, hlk, hnm, hR⟩ := F
  intro H locs ls hH hlo hL
  exact lv_iushr hx hb hd rfl (k H locs ls hH hlo hL)
theorem zv_ladd (F : zv_F Δ Γ own nm cc nL ret R) {x y : Int64} (hd : decode cc pc = .ok (.ladd, 1)) (k : zv_V Δ Γ Q (pc + 1) lv (.long (x + y) :: st) hp sz ce sl) : zv_V Δ Γ Q (pc) lv (.long y :: .long x :: st) hp sz ce sl := by
  obtain ⟨p, l, e, R0, s, m, args, below, meth, c⟩ := Γ
  obtain ⟨hx, hb, hml, hown, hts, hT, hr, hlk, hnm, hR⟩ := F
  intro H locs ls hH hlo hL
  exact lv_ladd hx hb hd (k H locs ls hH hlo hL)
theorem zv_lsub (F : zv_F Δ Γ own nm cc nL ret R) {x y : Int64} (hd : decode cc pc = .ok (.lsub, 1)) (k : zv_V Δ Γ Q (pc + 1) lv (.long (x - y) :: st) hp sz ce sl) : zv_V Δ Γ Q (pc) lv (.long y :: .long x :: st) hp sz ce sl := by
  obtain ⟨p, l, e, R0, s, m, args, below, meth, c⟩ := Γ
  obtain ⟨hx, hb, hml, hown, hts, hT, hr, hlk, hnm, hR⟩ := F
  intro H locs ls hH hlo hL
  exact lv_lsub hx hb hd (k H locs ls hH hlo hL)
theorem zv_lmul (F : zv_F Δ Γ own nm cc nL ret R) {x y : Int64} (hd : decode cc pc = .ok (.lmul, 1)) (k : zv_V Δ Γ Q (pc + 1) lv (.long (x * y) :: st) hp sz ce sl) : zv_V Δ Γ Q (pc) lv (.long y :: .long x :: st) hp sz ce sl := by
  obtain ⟨p, l, e, R0, s, m, args, below, meth, c⟩ := Γ
  obtain ⟨hx, hb, hml, hown, hts, hT, hr, hlk, hnm, hR⟩ := F
  intro H locs ls hH hlo hL
  exact lv_lmul hx hb hd (k H locs ls hH hlo hL)
theorem zv_land (F : zv_F Δ Γ own nm cc nL ret R) {x y : Int64} (hd : decode cc pc = .ok (.land, 1)) (k : zv_V Δ Γ Q (pc + 1) lv (.long (x &&& y) :: st) hp sz ce sl) : zv_V Δ Γ Q (pc) lv (.long y :: .long x :: st) hp sz ce sl := by
  obtain ⟨p, l, e, R0, s, m, args, below, meth, c⟩ := Γ
  obtain ⟨hx, hb, hml, hown, hts, hT, hr, hlk, hnm, hR⟩ := F
  intro H locs ls hH hlo hL
  exact lv_land hx hb hd (k H locs ls hH hlo hL)
theorem zv_lor (F : zv_F Δ Γ own nm cc nL ret R) {x y : Int64} (hd : decode cc pc = .ok (.lor, 1)) (k : zv_V Δ Γ Q (pc + 1) lv (.long (x ||| y) :: st) hp sz ce sl) : zv_V Δ Γ Q (pc) lv (.long y :: .long x :: st) hp sz ce sl := by
  obtain ⟨p, l, e, R0, s, m, args, below, meth, c⟩ := Γ
  obtain ⟨hx, hb, hml, hown, hts, hT, hr, hlk, hnm, hR⟩ := F
  intro H locs ls hH hlo hL
  exact lv_lor hx hb hd (k H locs ls hH hlo hL)
theorem zv_lxor (F : zv_F Δ Γ own nm cc nL ret R) {x y : Int64} (hd : decode cc pc = .ok (.lxor, 1)) (k : zv_V Δ Γ Q (pc + 1) lv (.long (x ^^^ y) :: st) hp sz ce sl) : zv_V Δ Γ Q (pc) lv (.long y :: .long x :: st) hp sz ce sl := by
  obtain ⟨p, l, e, R0, s, m, args, below, meth, c⟩ := Γ
  obtain ⟨hx, hb, hml, hown, hts, hT, hr, hlk, hnm, hR⟩ := F
  intro H locs ls hH hlo hL
  exact lv_lxor hx hb hd (k H locs ls hH hlo hL)
theorem zv_lshl (F : zv_F Δ Γ own nm cc nL ret R) {x : Int64} {y : Int32} (hd : decode cc pc = .ok (.lshl, 1)) (k : zv_V Δ Γ Q (pc + 1) lv (.long (x <<< (y.toInt64 &&& 63)) :: st) hp sz ce sl) : zv_V Δ Γ Q (pc) lv (.int y :: .long x :: st) hp sz ce sl := by
  obtain ⟨p, l, e, R0, s, m, args, below, meth, c⟩ := Γ
  obtain ⟨hx, hb, hml, hown, hts, hT, hr, hlk, hnm, hR⟩ := F
  intro H locs ls hH hlo hL
  exact lv_lshl hx hb hd rfl (k H locs ls hH hlo hL)
theorem zv_lshr (F : zv_F Δ Γ own nm cc nL ret R) {x : Int64} {y : Int32} (hd : decode cc pc = .ok (.lshr, 1)) (k : zv_V Δ Γ Q (pc + 1) lv (.long (x >>> (y.toInt64 &&& 63)) :: st) hp sz ce sl) : zv_V Δ Γ Q (pc) lv (.int y :: .long x :: st) hp sz ce sl := by
  obtain ⟨p, l, e, R0, s, m, args, below, meth, c⟩ := Γ
  obtain ⟨hx, hb, hml, hown, hts, hT, hr, hlk, hnm, hR⟩ := F
  intro H locs ls hH hlo hL
  exact lv_lshr hx hb hd rfl (k H locs ls hH hlo hL)
theorem zv_lushr (F : zv_F Δ Γ own nm cc nL ret R) {x : Int64} {y : Int32} (hd : decode cc pc = .ok (.lushr, 1)) (k : zv_V Δ Γ Q (pc + 1) lv (.long ((x.toUInt64 >>> (y.toInt64.toUInt64 &&& Int64.toUInt64 63)).toInt64) :: st) hp sz ce sl) : zv_V Δ Γ Q (pc) lv (.int y :: .long x :: st) hp sz ce sl := by
  obtain ⟨p, l, e, R0, s, m, args, below, meth, c⟩ := Γ
  obtain ⟨hx, hb, hml, hown, hts, hT, hr, hlk, hnm, hR⟩ := F
  intro H locs ls hH hlo hL
  exact lv_lushr hx hb hd rfl (k H locs ls hH hlo hL)
theorem zv_lcmp (F : zv_F Δ Γ own nm cc nL ret R) {x y : Int64} (hd : decode cc pc = .ok (.lcmp, 1)) (k : zv_V Δ Γ Q (pc + 1) lv (.int (lg_cmp x y) :: st) hp sz ce sl) : zv_V Δ Γ Q (pc) lv (.long y :: .long x :: st) hp sz ce sl := by
  obtain ⟨p, l, e, R0, s, m, args, below, meth, c⟩ := Γ
  obtain ⟨hx, hb, hml, hown, hts, hT, hr, hlk, hnm, hR⟩ := F
  intro H locs ls hH hlo hL
  exact W.lcmp hx hb hd (k H locs ls hH hlo hL)
theorem zv_i2l (F : zv_F Δ Γ own nm cc nL ret R) {x : Int32} (hd : decode cc pc = .ok (.i2l, 1)) (k : zv_V Δ Γ Q (pc + 1) lv (.long x.toInt64 :: st) hp sz ce sl) : zv_V Δ Γ Q (pc) lv (.int x :: st) hp sz ce sl := by
  obtain ⟨p, l, e, R0, s, m, args, below, meth, c⟩ := Γ
  obtain ⟨hx, hb, hml, hown, hts, hT, hr, hlk, hnm, hR⟩ := F
  intro H locs ls hH hlo hL
  exact lv_i2l hx hb hd rfl (k H locs ls hH hlo hL)
theorem zv_l2i (F : zv_F Δ Γ own nm cc nL ret R) {x : Int64} (hd : decode cc pc = .ok (.l2i, 1)) (k : zv_V Δ Γ Q (pc + 1) lv (.int x.toInt32 :: st) hp sz ce sl) : zv_V Δ Γ Q (pc) lv (.long x :: st) hp sz ce sl := by
  obtain ⟨p, l, e, R0, s, m, args, below, meth, c⟩ := Γ
  obtain ⟨hx, hb, hml, hown, hts, hT, hr, hlk, hnm, hR⟩ := F
  intro H locs ls hH hlo hL
  exact lv_l2i hx hb hd rfl (k H locs ls hH hlo hL)
theorem zv_iconst (F : zv_F Δ Γ own nm cc nL ret R) {n : Int} {v : Int32} (hd : decode cc pc = .ok (.iconst n, 1)) (hv : Int32.ofInt n = v) (k : zv_V Δ Γ Q (pc + 1) lv (.int v :: st) hp sz ce sl) : zv_V Δ Γ Q (pc) lv (st) hp sz ce sl := by
  obtain ⟨p, l, e, R0, s, m, args, below, meth, c⟩ := Γ
  obtain ⟨hx, hb, hml, hown, hts, hT, hr, hlk, hnm, hR⟩ := F
  intro H locs ls hH hlo hL
  exact lv_iconst hx hb hd hv (k H locs ls hH hlo hL)
theorem zv_bipush (F : zv_F Δ Γ own nm cc nL ret R) {n : Int} {v : Int32} (hd : decode cc pc = .ok (.bipush n, 2)) (hv : (Int8.ofInt n).toInt32 = v) (k : zv_V Δ Γ Q (pc + 2) lv (.int v :: st) hp sz ce sl) : zv_V Δ Γ Q (pc) lv (st) hp sz ce sl := by
  obtain ⟨p, l, e, R0, s, m, args, below, meth, c⟩ := Γ
  obtain ⟨hx, hb, hml, hown, hts, hT, hr, hlk, hnm, hR⟩ := F
  intro H locs ls hH hlo hL
  exact lv_bipush hx hb hd hv (k H locs ls hH hlo hL)
theorem zv_sipush (F : zv_F Δ Γ own nm cc nL ret R) {n : Int} {v : Int32} (hd : decode cc pc = .ok (.sipush n, 3)) (hv : (Int16.ofInt n).toInt32 = v) (k : zv_V Δ Γ Q (pc + 3) lv (.int v :: st) hp sz ce sl) : zv_V Δ Γ Q (pc) lv (st) hp sz ce sl := by
  obtain ⟨p, l, e, R0, s, m, args, below, meth, c⟩ := Γ
  obtain ⟨hx, hb, hml, hown, hts, hT, hr, hlk, hnm, hR⟩ := F
  intro H locs ls hH hlo hL
  exact lv_sipush hx hb hd hv (k H locs ls hH hlo hL)
theorem zv_lconst (F : zv_F Δ Γ own nm cc nL ret R) {n : Fin 2} {v : Int64} (hd : decode cc pc = .ok (.lconst n, 1)) (hv : Int64.ofNat (n : Nat) = v) (k : zv_V Δ Γ Q (pc + 1) lv (.long v :: st) hp sz ce sl) : zv_V Δ Γ Q (pc) lv (st) hp sz ce sl := by
  obtain ⟨p, l, e, R0, s, m, args, below, meth, c⟩ := Γ
  obtain ⟨hx, hb, hml, hown, hts, hT, hr, hlk, hnm, hR⟩ := F
  intro H locs ls hH hlo hL
  exact lv_lconst hx hb hd hv (k H locs ls hH hlo hL)
theorem zv_null (F : zv_F Δ Γ own nm cc nL ret R) (hd : decode cc pc = .ok (.aconst_null, 1)) (k : zv_V Δ Γ Q (pc + 1) lv (.null :: st) hp sz ce sl) : zv_V Δ Γ Q (pc) lv (st) hp sz ce sl := by
  obtain ⟨p, l, e, R0, s, m, args, below, meth, c⟩ := Γ
  obtain ⟨hx, hb, hml, hown, hts, hT, hr, hlk, hnm, hR⟩ := F
  intro H locs ls hH hlo hL
  exact lv_null hx hb hd (k H locs ls hH hlo hL)
theorem zv_dup (F : zv_F Δ Γ own nm cc nL ret R) {va : Value} (hd : decode cc pc = .ok (.dup, 1)) (hva : va.category = 1) (k : zv_V Δ Γ Q (pc + 1) lv (va :: va :: st) hp sz ce sl) : zv_V Δ Γ Q (pc) lv (va :: st) hp sz ce sl := by
  obtain ⟨p, l, e, R0, s, m, args, below, meth, c⟩ := Γ
  obtain ⟨hx, hb, hml, hown, hts, hT, hr, hlk, hnm, hR⟩ := F
  intro H locs ls hH hlo hL
  exact lv_dup hx hb hd hva (k H locs ls hH hlo hL)
theorem zv_pop (F : zv_F Δ Γ own nm cc nL ret R) {va : Value} (hd : decode cc pc = .ok (.pop, 1)) (hva : va.category = 1) (k : zv_V Δ Γ Q (pc + 1) lv (st) hp sz ce sl) : zv_V Δ Γ Q (pc) lv (va :: st) hp sz ce sl := by
  obtain ⟨p, l, e, R0, s, m, args, below, meth, c⟩ := Γ
  obtain ⟨hx, hb, hml, hown, hts, hT, hr, hlk, hnm, hR⟩ := F
  intro H locs ls hH hlo hL
  exact lv_pop hx hb hd hva (k H locs ls hH hlo hL)
theorem zv_dup_x1 (F : zv_F Δ Γ own nm cc nL ret R) {va vb : Value} (hd : decode cc pc = .ok (.dup_x1, 1)) (hva : va.category = 1) (hvb : vb.category = 1) (k : zv_V Δ Γ Q (pc + 1) lv (va :: vb :: va :: st) hp sz ce sl) : zv_V Δ Γ Q (pc) lv (va :: vb :: st) hp sz ce sl := by
  obtain ⟨p, l, e, R0, s, m, args, below, meth, c⟩ := Γ
  obtain ⟨hx, hb, hml, hown, hts, hT, hr, hlk, hnm, hR⟩ := F
  intro H locs ls hH hlo hL
  exact lv_dup_x1 hx hb hd hva hvb (k H locs ls hH hlo hL)
theorem zv_dup_x2 (F : zv_F Δ Γ own nm cc nL ret R) {va vb vd : Value} (hd : decode cc pc = .ok (.dup_x2, 1)) (hva : va.category = 1) (hvb : vb.category = 1) (hvd : vd.category = 1) (k : zv_V Δ Γ Q (pc + 1) lv (va :: vb :: vd :: va :: st) hp sz ce sl) : zv_V Δ Γ Q (pc) lv (va :: vb :: vd :: st) hp sz ce sl := by
  obtain ⟨p, l, e, R0, s, m, args, below, meth, c⟩ := Γ
  obtain ⟨hx, hb, hml, hown, hts, hT, hr, hlk, hnm, hR⟩ := F
  intro H locs ls hH hlo hL
  exact lv_dup_x2 hx hb hd hva hvb hvd (k H locs ls hH hlo hL)
theorem zv_dup2 (F : zv_F Δ Γ own nm cc nL ret R) {va vb : Value} (hd : decode cc pc = .ok (.dup2, 1)) (hva : va.category = 1) (hvb : vb.category = 1) (k : zv_V Δ Γ Q (pc + 1) lv (va :: vb :: va :: vb :: st) hp sz ce sl) : zv_V Δ Γ Q (pc) lv (va :: vb :: st) hp sz ce sl := by
  obtain ⟨p, l, e, R0, s, m, args, below, meth, c⟩ := Γ
  obtain ⟨hx, hb, hml, hown, hts, hT, hr, hlk, hnm, hR⟩ := F
  intro H locs ls hH hlo hL
  exact lv_dup2_11 hx hb hd hva hvb (k H locs ls hH hlo hL)
theorem zv_dup2l (F : zv_F Δ Γ own nm cc nL ret R) {va : Value} (hd : decode cc pc = .ok (.dup2, 1)) (hva : va.category = 2) (k : zv_V Δ Γ Q (pc + 1) lv (va :: va :: st) hp sz ce sl) : zv_V Δ Γ Q (pc) lv (va :: st) hp sz ce sl := by
  obtain ⟨p, l, e, R0, s, m, args, below, meth, c⟩ := Γ
  obtain ⟨hx, hb, hml, hown, hts, hT, hr, hlk, hnm, hR⟩ := F
  intro H locs ls hH hlo hL
  exact lv_dup2_2 hx hb hd hva (k H locs ls hH hlo hL)
theorem zv_pop2l (F : zv_F Δ Γ own nm cc nL ret R) {va : Value} (hd : decode cc pc = .ok (.pop2, 1)) (hva : va.category = 2) (k : zv_V Δ Γ Q (pc + 1) lv (st) hp sz ce sl) : zv_V Δ Γ Q (pc) lv (va :: st) hp sz ce sl := by
  obtain ⟨p, l, e, R0, s, m, args, below, meth, c⟩ := Γ
  obtain ⟨hx, hb, hml, hown, hts, hT, hr, hlk, hnm, hR⟩ := F
  intro H locs ls hH hlo hL
  exact lv_pop2_2 hx hb hd hva (k H locs ls hH hlo hL)
theorem zv_dup2_x1l (F : zv_F Δ Γ own nm cc nL ret R) {va vb : Value} (hd : decode cc pc = .ok (.dup2_x1, 1)) (hva : va.category = 2) (hvb : vb.category = 1) (k : zv_V Δ Γ Q (pc + 1) lv (va :: vb :: va :: st) hp sz ce sl) : zv_V Δ Γ Q (pc) lv (va :: vb :: st) hp sz ce sl := by
  obtain ⟨p, l, e, R0, s, m, args, below, meth, c⟩ := Γ
  obtain ⟨hx, hb, hml, hown, hts, hT, hr, hlk, hnm, hR⟩ := F
  intro H locs ls hH hlo hL
  exact lv_dup2_x1_2 hx hb hd hva hvb (k H locs ls hH hlo hL)
theorem zv_dup2_x2l (F : zv_F Δ Γ own nm cc nL ret R) {va vb vd : Value} (hd : decode cc pc = .ok (.dup2_x2, 1)) (hva : va.category = 2) (hvb : vb.category = 1) (hvd : vd.category = 1) (k : zv_V Δ Γ Q (pc + 1) lv (va :: vb :: vd :: va :: st) hp sz ce sl) : zv_V Δ Γ Q (pc) lv (va :: vb :: vd :: st) hp sz ce sl := by
  obtain ⟨p, l, e, R0, s, m, args, below, meth, c⟩ := Γ
  obtain ⟨hx, hb, hml, hown, hts, hT, hr, hlk, hnm, hR⟩ := F
  intro H locs ls hH hlo hL
  exact lv_dup2_x2_2 hx hb hd hva hvb hvd (k H locs ls hH hlo hL)
theorem zv_ldc (F : zv_F Δ Γ own nm cc nL ret R) {index : Nat} {v : Int32} (hd : decode cc pc = .ok (.ldc index, 2)) (hc : Cond.constant own index v ∈ zp_G) (k : zv_V Δ Γ Q (pc + 2) lv (.int v :: st) hp sz ce sl) : zv_V Δ Γ Q (pc) lv (st) hp sz ce sl := by
  obtain ⟨p, l, e, R0, s, m, args, below, meth, c⟩ := Γ
  obtain ⟨hx, hb, hml, hown, hts, hT, hr, hlk, hnm, hR⟩ := F
  intro H locs ls hH hlo hL
  exact lv_ldc hx hb hown (hts _ hc) hd (k H locs ls hH hlo hL)
theorem zv_ldc2 (F : zv_F Δ Γ own nm cc nL ret R) {index : Nat} {v : Int64} (hd : decode cc pc = .ok (.ldc2_w index, 3)) (hc : Cond.constantLong own index v ∈ zp_G) (k : zv_V Δ Γ Q (pc + 3) lv (.long v :: st) hp sz ce sl) : zv_V Δ Γ Q (pc) lv (st) hp sz ce sl := by
  obtain ⟨p, l, e, R0, s, m, args, below, meth, c⟩ := Γ
  obtain ⟨hx, hb, hml, hown, hts, hT, hr, hlk, hnm, hR⟩ := F
  intro H locs ls hH hlo hL
  exact lv_ldc2 hx hb hown (hts _ hc) hd (k H locs ls hH hlo hL)
theorem zv_iload_n (F : zv_F Δ Γ own nm cc nL ret R) {j : Fin 4} {x : Int32} (hd : decode cc pc = .ok (.iload_n j, 1)) (hl : lv[(j : Nat)]? = some (some (.int x))) (k : zv_V Δ Γ Q (pc + 1) lv (.int x :: st) hp sz ce sl) : zv_V Δ Γ Q (pc) lv (st) hp sz ce sl := by
  obtain ⟨p, l, e, R0, s, m, args, below, meth, c⟩ := Γ
  obtain ⟨hx, hb, hml, hown, hts, hT, hr, hlk, hnm, hR⟩ := F
  intro H locs ls hH hlo hL
  exact lv_iload_n hx hb hd rfl (hL.2.2 _ _ hl) (k H locs ls hH hlo hL)
theorem zv_iload (F : zv_F Δ Γ own nm cc nL ret R) {j : Nat} {x : Int32} (hd : decode cc pc = .ok (.iload j, 2)) (hl : lv[j]? = some (some (.int x))) (k : zv_V Δ Γ Q (pc + 2) lv (.int x :: st) hp sz ce sl) : zv_V Δ Γ Q (pc) lv (st) hp sz ce sl := by
  obtain ⟨p, l, e, R0, s, m, args, below, meth, c⟩ := Γ
  obtain ⟨hx, hb, hml, hown, hts, hT, hr, hlk, hnm, hR⟩ := F
  intro H locs ls hH hlo hL
  exact lv_iload hx hb hd (hL.2.2 _ _ hl) (k H locs ls hH hlo hL)
theorem zv_lload_n (F : zv_F Δ Γ own nm cc nL ret R) {j : Fin 4} {x : Int64} (hd : decode cc pc = .ok (.lload_n j, 1)) (hl : lv[(j : Nat)]? = some (some (.long x))) (k : zv_V Δ Γ Q (pc + 1) lv (.long x :: st) hp sz ce sl) : zv_V Δ Γ Q (pc) lv (st) hp sz ce sl := by
  obtain ⟨p, l, e, R0, s, m, args, below, meth, c⟩ := Γ
  obtain ⟨hx, hb, hml, hown, hts, hT, hr, hlk, hnm, hR⟩ := F
  intro H locs ls hH hlo hL
  exact lv_lload_n hx hb hd rfl (hL.2.2 _ _ hl) (k H locs ls hH hlo hL)
theorem zv_lload (F : zv_F Δ Γ own nm cc nL ret R) {j : Nat} {x : Int64} (hd : decode cc pc = .ok (.lload j, 2)) (hl : lv[j]? = some (some (.long x))) (k : zv_V Δ Γ Q (pc + 2) lv (.long x :: st) hp sz ce sl) : zv_V Δ Γ Q (pc) lv (st) hp sz ce sl := by
  obtain ⟨p, l, e, R0, s, m, args, below, meth, c⟩ := Γ
  obtain ⟨hx, hb, hml, hown, hts, hT, hr, hlk, hnm, hR⟩ := F
  intro H locs ls hH hlo hL
  exact lv_lload hx hb hd (hL.2.2 _ _ hl) (k H locs ls hH hlo hL)
theorem zv_aload_n (F : zv_F Δ Γ own nm cc nL ret R) {j : Fin 4} {x : Nat} (hd : decode cc pc = .ok (.aload_n j, 1)) (hl : lv[(j : Nat)]? = some (some (.ref x))) (k : zv_V Δ Γ Q (pc + 1) lv (.ref x :: st) hp sz ce sl) : zv_V Δ Γ Q (pc) lv (st) hp sz ce sl := by
  obtain ⟨p, l, e, R0, s, m, args, below, meth, c⟩ := Γ
  obtain ⟨hx, hb, hml, hown, hts, hT, hr, hlk, hnm, hR⟩ := F
  intro H locs ls hH hlo hL
  exact lv_aload_n hx hb hd rfl (hL.2.2 _ _ hl) (k H locs ls hH hlo hL)
theorem zv_aload (F : zv_F Δ Γ own nm cc nL ret R) {j : Nat} {x : Nat} (hd : decode cc pc = .ok (.aload j, 2)) (hl : lv[j]? = some (some (.ref x))) (k : zv_V Δ Γ Q (pc + 2) lv (.ref x :: st) hp sz ce sl) : zv_V Δ Γ Q (pc) lv (st) hp sz ce sl := by
  obtain ⟨p, l, e, R0, s, m, args, below, meth, c⟩ := Γ
  obtain ⟨hx, hb, hml, hown, hts, hT, hr, hlk, hnm, hR⟩ := F
  intro H locs ls hH hlo hL
  exact lv_aload hx hb hd (hL.2.2 _ _ hl) (k H locs ls hH hlo hL)
theorem zv_istore_n (F : zv_F Δ Γ own nm cc nL ret R) {j : Fin 4} {x : Int32} (hd : decode cc pc = .ok (.istore_n j, 1)) (hj : (j : Nat) < lv.length) (k : zv_V Δ Γ Q (pc + 1) (zv_s1 lv j (.int x)) st hp sz ce sl) : zv_V Δ Γ Q (pc) lv (.int x :: st) hp sz ce sl := by
  obtain ⟨p, l, e, R0, s, m, args, below, meth, c⟩ := Γ
  obtain ⟨hx, hb, hml, hown, hts, hT, hr, hlk, hnm, hR⟩ := F
  intro H locs ls hH hlo hL
  exact lv_istore_n hx hb hd rfl hL.has hj rfl (fun ls2 h2 => k H locs ls2 hH hlo (zv_s1_has h2))
theorem zv_istore (F : zv_F Δ Γ own nm cc nL ret R) {j : Nat} {x : Int32} (hd : decode cc pc = .ok (.istore j, 2)) (hj : (j : Nat) < lv.length) (k : zv_V Δ Γ Q (pc + 2) (zv_s1 lv j (.int x)) st hp sz ce sl) : zv_V Δ Γ Q (pc) lv (.int x :: st) hp sz ce sl := by
  obtain ⟨p, l, e, R0, s, m, args, below, meth, c⟩ := Γ
  obtain ⟨hx, hb, hml, hown, hts, hT, hr, hlk, hnm, hR⟩ := F
  intro H locs ls hH hlo hL
  exact lv_istore hx hb hd hL.has hj rfl (fun ls2 h2 => k H locs ls2 hH hlo (zv_s1_has h2))
theorem zv_lstore_n (F : zv_F Δ Γ own nm cc nL ret R) {j : Fin 4} {x : Int64} (hd : decode cc pc = .ok (.lstore_n j, 1)) (hj : (j : Nat) + 1 < lv.length) (k : zv_V Δ Γ Q (pc + 1) (zv_s2 lv j (.long x)) st hp sz ce sl) : zv_V Δ Γ Q (pc) lv (.long x :: st) hp sz ce sl := by
  obtain ⟨p, l, e, R0, s, m, args, below, meth, c⟩ := Γ
  obtain ⟨hx, hb, hml, hown, hts, hT, hr, hlk, hnm, hR⟩ := F
  intro H locs ls hH hlo hL
  exact lv_lstore_n hx hb hd rfl hL.has hj rfl (fun ls2 h2 => k H locs ls2 hH hlo (zv_s2_has h2))
theorem zv_lstore (F : zv_F Δ Γ own nm cc nL ret R) {j : Nat} {x : Int64} (hd : decode cc pc = .ok (.lstore j, 2)) (hj : (j : Nat) + 1 < lv.length) (k : zv_V Δ Γ Q (pc + 2) (zv_s2 lv j (.long x)) st hp sz ce sl) : zv_V Δ Γ Q (pc) lv (.long x :: st) hp sz ce sl := by
  obtain ⟨p, l, e, R0, s, m, args, below, meth, c⟩ := Γ
  obtain ⟨hx, hb, hml, hown, hts, hT, hr, hlk, hnm, hR⟩ := F
  intro H locs ls hH hlo hL
  exact lv_lstore hx hb hd hL.has hj rfl (fun ls2 h2 => k H locs ls2 hH hlo (zv_s2_has h2))
theorem zv_astore_n (F : zv_F Δ Γ own nm cc nL ret R) {j : Fin 4} {x : Nat} (hd : decode cc pc = .ok (.astore_n j, 1)) (hj : (j : Nat) < lv.length) (k : zv_V Δ Γ Q (pc + 1) (zv_s1 lv j (.ref x)) st hp sz ce sl) : zv_V Δ Γ Q (pc) lv (.ref x :: st) hp sz ce sl := by
  obtain ⟨p, l, e, R0, s, m, args, below, meth, c⟩ := Γ
  obtain ⟨hx, hb, hml, hown, hts, hT, hr, hlk, hnm, hR⟩ := F
  intro H locs ls hH hlo hL
  exact lv_astore_n hx hb hd rfl hL.has hj rfl (fun ls2 h2 => k H locs ls2 hH hlo (zv_s1_has h2))
theorem zv_astore (F : zv_F Δ Γ own nm cc nL ret R) {j : Nat} {x : Nat} (hd : decode cc pc = .ok (.astore j, 2)) (hj : (j : Nat) < lv.length) (k : zv_V Δ Γ Q (pc + 2) (zv_s1 lv j (.ref x)) st hp sz ce sl) : zv_V Δ Γ Q (pc) lv (.ref x :: st) hp sz ce sl := by
  obtain ⟨p, l, e, R0, s, m, args, below, meth, c⟩ := Γ
  obtain ⟨hx, hb, hml, hown, hts, hT, hr, hlk, hnm, hR⟩ := F
  intro H locs ls hH hlo hL
  exact lv_astore hx hb hd hL.has hj rfl (fun ls2 h2 => k H locs ls2 hH hlo (zv_s1_has h2))
theorem zv_iinc (F : zv_F Δ Γ own nm cc nL ret R) {j : Nat} {n : Int} {x v : Int32} (hd : decode cc pc = .ok (.iinc j n, 3)) (hl : lv[j]? = some (some (.int x))) (hv : x + Int32.ofInt n = v) (k : zv_V Δ Γ Q (pc + 3) (zv_s1 lv j (.int v)) st hp sz ce sl) : zv_V Δ Γ Q (pc) lv (st) hp sz ce sl := by
  obtain ⟨p, l, e, R0, s, m, args, below, meth, c⟩ := Γ
  obtain ⟨hx, hb, hml, hown, hts, hT, hr, hlk, hnm, hR⟩ := F
  intro H locs ls hH hlo hL
  obtain ⟨kk, hkk⟩ := List.getElem?_of_mem (zv_prs_mem hl)
  exact lv_iinc hx hb hd hL.has hkk hv (List.getElem?_eq_some_iff.mp hl).1 rfl (fun ls2 h2 => k H locs ls2 hH hlo (zv_s1_has h2))
theorem zv_icmp_eq (F : zv_F Δ Γ own nm cc nL ret R) {x y : Int32} {off : Int} {tgt : Nat} (hd : decode cc pc = .ok (.if_icmp .eq off, 3)) (ht : (pc : Int) + off = (tgt : Int)) (kt : x = y → zv_V Δ Γ Q (tgt) lv (st) hp sz ce sl) (kf : ¬ x = y → zv_V Δ Γ Q (pc + 3) lv (st) hp sz ce sl) : zv_V Δ Γ Q (pc) lv (.int y :: .int x :: st) hp sz ce sl := by
  obtain ⟨p, l, e, R0, s, m, args, below, meth, c⟩ := Γ
  obtain ⟨hx, hb, hml, hown, hts, hT, hr, hlk, hnm, hR⟩ := F
  intro H locs ls hH hlo hL
  exact lv_icmp_eq hx hb hd ht (fun h => kt h H locs ls hH hlo hL) (fun h => kf h H locs ls hH hlo hL)
theorem zv_icmp_ne (F : zv_F Δ Γ own nm cc nL ret R) {x y : Int32} {off : Int} {tgt : Nat} (hd : decode cc pc = .ok (.if_icmp .ne off, 3)) (ht : (pc : Int) + off = (tgt : Int)) (kt : ¬ x = y → zv_V Δ Γ Q (tgt) lv (st) hp sz ce sl) (kf : x = y → zv_V Δ Γ Q (pc + 3) lv (st) hp sz ce sl) : zv_V Δ Γ Q (pc) lv (.int y :: .int x :: st) hp sz ce sl := by
  obtain ⟨p, l, e, R0, s, m, args, below, meth, c⟩ := Γ
  obtain ⟨hx, hb, hml, hown, hts, hT, hr, hlk, hnm, hR⟩ := F
  intro H locs ls hH hlo hL
  exact lv_icmp_ne hx hb hd ht (fun h => kt h H locs ls hH hlo hL) (fun h => kf h H locs ls hH hlo hL)
theorem zv_icmp_lt (F : zv_F Δ Γ own nm cc nL ret R) {x y : Int32} {off : Int} {tgt : Nat} (hd : decode cc pc = .ok (.if_icmp .lt off, 3)) (ht : (pc : Int) + off = (tgt : Int)) (kt : x < y → zv_V Δ Γ Q (tgt) lv (st) hp sz ce sl) (kf : ¬ x < y → zv_V Δ Γ Q (pc + 3) lv (st) hp sz ce sl) : zv_V Δ Γ Q (pc) lv (.int y :: .int x :: st) hp sz ce sl := by
  obtain ⟨p, l, e, R0, s, m, args, below, meth, c⟩ := Γ
  obtain ⟨hx, hb, hml, hown, hts, hT, hr, hlk, hnm, hR⟩ := F
  intro H locs ls hH hlo hL
  exact lv_icmp_lt hx hb hd ht (fun h => kt h H locs ls hH hlo hL) (fun h => kf h H locs ls hH hlo hL)
theorem zv_icmp_ge (F : zv_F Δ Γ own nm cc nL ret R) {x y : Int32} {off : Int} {tgt : Nat} (hd : decode cc pc = .ok (.if_icmp .ge off, 3)) (ht : (pc : Int) + off = (tgt : Int)) (kt : y ≤ x → zv_V Δ Γ Q (tgt) lv (st) hp sz ce sl) (kf : ¬ y ≤ x → zv_V Δ Γ Q (pc + 3) lv (st) hp sz ce sl) : zv_V Δ Γ Q (pc) lv (.int y :: .int x :: st) hp sz ce sl := by
  obtain ⟨p, l, e, R0, s, m, args, below, meth, c⟩ := Γ
  obtain ⟨hx, hb, hml, hown, hts, hT, hr, hlk, hnm, hR⟩ := F
  intro H locs ls hH hlo hL
  exact lv_icmp_ge hx hb hd ht (fun h => kt h H locs ls hH hlo hL) (fun h => kf h H locs ls hH hlo hL)
theorem zv_icmp_gt (F : zv_F Δ Γ own nm cc nL ret R) {x y : Int32} {off : Int} {tgt : Nat} (hd : decode cc pc = .ok (.if_icmp .gt off, 3)) (ht : (pc : Int) + off = (tgt : Int)) (kt : y < x → zv_V Δ Γ Q (tgt) lv (st) hp sz ce sl) (kf : ¬ y < x → zv_V Δ Γ Q (pc + 3) lv (st) hp sz ce sl) : zv_V Δ Γ Q (pc) lv (.int y :: .int x :: st) hp sz ce sl := by
  obtain ⟨p, l, e, R0, s, m, args, below, meth, c⟩ := Γ
  obtain ⟨hx, hb, hml, hown, hts, hT, hr, hlk, hnm, hR⟩ := F
  intro H locs ls hH hlo hL
  exact lv_icmp_gt hx hb hd ht (fun h => kt h H locs ls hH hlo hL) (fun h => kf h H locs ls hH hlo hL)
theorem zv_icmp_le (F : zv_F Δ Γ own nm cc nL ret R) {x y : Int32} {off : Int} {tgt : Nat} (hd : decode cc pc = .ok (.if_icmp .le off, 3)) (ht : (pc : Int) + off = (tgt : Int)) (kt : x ≤ y → zv_V Δ Γ Q (tgt) lv (st) hp sz ce sl) (kf : ¬ x ≤ y → zv_V Δ Γ Q (pc + 3) lv (st) hp sz ce sl) : zv_V Δ Γ Q (pc) lv (.int y :: .int x :: st) hp sz ce sl := by
  obtain ⟨p, l, e, R0, s, m, args, below, meth, c⟩ := Γ
  obtain ⟨hx, hb, hml, hown, hts, hT, hr, hlk, hnm, hR⟩ := F
  intro H locs ls hH hlo hL
  exact lv_icmp_le hx hb hd ht (fun h => kt h H locs ls hH hlo hL) (fun h => kf h H locs ls hH hlo hL)
theorem zv_if_eq (F : zv_F Δ Γ own nm cc nL ret R) {x : Int32} {off : Int} {tgt : Nat} (hd : decode cc pc = .ok (.ifCond .eq off, 3)) (ht : (pc : Int) + off = (tgt : Int)) (kt : x = 0 → zv_V Δ Γ Q (tgt) lv (st) hp sz ce sl) (kf : ¬ x = 0 → zv_V Δ Γ Q (pc + 3) lv (st) hp sz ce sl) : zv_V Δ Γ Q (pc) lv (.int x :: st) hp sz ce sl := by
  obtain ⟨p, l, e, R0, s, m, args, below, meth, c⟩ := Γ
  obtain ⟨hx, hb, hml, hown, hts, hT, hr, hlk, hnm, hR⟩ := F
  intro H locs ls hH hlo hL
  exact lv_if_eq hx hb hd ht (fun h => kt h H locs ls hH hlo hL) (fun h => kf h H locs ls hH hlo hL)
theorem zv_if_ne (F : zv_F Δ Γ own nm cc nL ret R) {x : Int32} {off : Int} {tgt : Nat} (hd : decode cc pc = .ok (.ifCond .ne off, 3)) (ht : (pc : Int) + off = (tgt : Int)) (kt : ¬ x = 0 → zv_V Δ Γ Q (tgt) lv (st) hp sz ce sl) (kf : x = 0 → zv_V Δ Γ Q (pc + 3) lv (st) hp sz ce sl) : zv_V Δ Γ Q (pc) lv (.int x :: st) hp sz ce sl := by
  obtain ⟨p, l, e, R0, s, m, args, below, meth, c⟩ := Γ
  obtain ⟨hx, hb, hml, hown, hts, hT, hr, hlk, hnm, hR⟩ := F
  intro H locs ls hH hlo hL
  exact lv_if_ne hx hb hd ht (fun h => kt h H locs ls hH hlo hL) (fun h => kf h H locs ls hH hlo hL)
theorem zv_if_lt (F : zv_F Δ Γ own nm cc nL ret R) {x : Int32} {off : Int} {tgt : Nat} (hd : decode cc pc = .ok (.ifCond .lt off, 3)) (ht : (pc : Int) + off = (tgt : Int)) (kt : x < 0 → zv_V Δ Γ Q (tgt) lv (st) hp sz ce sl) (kf : ¬ x < 0 → zv_V Δ Γ Q (pc + 3) lv (st) hp sz ce sl) : zv_V Δ Γ Q (pc) lv (.int x :: st) hp sz ce sl := by
  obtain ⟨p, l, e, R0, s, m, args, below, meth, c⟩ := Γ
  obtain ⟨hx, hb, hml, hown, hts, hT, hr, hlk, hnm, hR⟩ := F
  intro H locs ls hH hlo hL
  exact lv_if_lt hx hb hd ht (fun h => kt h H locs ls hH hlo hL) (fun h => kf h H locs ls hH hlo hL)
theorem zv_if_ge (F : zv_F Δ Γ own nm cc nL ret R) {x : Int32} {off : Int} {tgt : Nat} (hd : decode cc pc = .ok (.ifCond .ge off, 3)) (ht : (pc : Int) + off = (tgt : Int)) (kt : 0 ≤ x → zv_V Δ Γ Q (tgt) lv (st) hp sz ce sl) (kf : ¬ 0 ≤ x → zv_V Δ Γ Q (pc + 3) lv (st) hp sz ce sl) : zv_V Δ Γ Q (pc) lv (.int x :: st) hp sz ce sl := by
  obtain ⟨p, l, e, R0, s, m, args, below, meth, c⟩ := Γ
  obtain ⟨hx, hb, hml, hown, hts, hT, hr, hlk, hnm, hR⟩ := F
  intro H locs ls hH hlo hL
  exact lv_if_ge hx hb hd ht (fun h => kt h H locs ls hH hlo hL) (fun h => kf h H locs ls hH hlo hL)
theorem zv_if_gt (F : zv_F Δ Γ own nm cc nL ret R) {x : Int32} {off : Int} {tgt : Nat} (hd : decode cc pc = .ok (.ifCond .gt off, 3)) (ht : (pc : Int) + off = (tgt : Int)) (kt : 0 < x → zv_V Δ Γ Q (tgt) lv (st) hp sz ce sl) (kf : ¬ 0 < x → zv_V Δ Γ Q (pc + 3) lv (st) hp sz ce sl) : zv_V Δ Γ Q (pc) lv (.int x :: st) hp sz ce sl := by
  obtain ⟨p, l, e, R0, s, m, args, below, meth, c⟩ := Γ
  obtain ⟨hx, hb, hml, hown, hts, hT, hr, hlk, hnm, hR⟩ := F
  intro H locs ls hH hlo hL
  exact lv_if_gt hx hb hd ht (fun h => kt h H locs ls hH hlo hL) (fun h => kf h H locs ls hH hlo hL)
theorem zv_if_le (F : zv_F Δ Γ own nm cc nL ret R) {x : Int32} {off : Int} {tgt : Nat} (hd : decode cc pc = .ok (.ifCond .le off, 3)) (ht : (pc : Int) + off = (tgt : Int)) (kt : x ≤ 0 → zv_V Δ Γ Q (tgt) lv (st) hp sz ce sl) (kf : ¬ x ≤ 0 → zv_V Δ Γ Q (pc + 3) lv (st) hp sz ce sl) : zv_V Δ Γ Q (pc) lv (.int x :: st) hp sz ce sl := by
  obtain ⟨p, l, e, R0, s, m, args, below, meth, c⟩ := Γ
  obtain ⟨hx, hb, hml, hown, hts, hT, hr, hlk, hnm, hR⟩ := F
  intro H locs ls hH hlo hL
  exact lv_if_le hx hb hd ht (fun h => kt h H locs ls hH hlo hL) (fun h => kf h H locs ls hH hlo hL)
theorem zv_goto (F : zv_F Δ Γ own nm cc nL ret R) {off : Int} {tgt : Nat} (hd : decode cc pc = .ok (.goto off, 3)) (ht : (pc : Int) + off = (tgt : Int)) (k : zv_V Δ Γ Q (tgt) lv (st) hp sz ce sl) : zv_V Δ Γ Q (pc) lv (st) hp sz ce sl := by
  obtain ⟨p, l, e, R0, s, m, args, below, meth, c⟩ := Γ
  obtain ⟨hx, hb, hml, hown, hts, hT, hr, hlk, hnm, hR⟩ := F
  intro H locs ls hH hlo hL
  exact lv_goto hx hb hd ht (k H locs ls hH hlo hL)
theorem zv_tableOut (F : zv_F Δ Γ own nm cc nL ret R) {dflt lo hi : Int} {offs : Array Int} {len : Nat} {x : Int32} {tgt : Nat} (hd : decode cc pc = .ok (.tableswitch dflt lo hi offs, len)) (h : x.toInt < lo ∨ hi < x.toInt) (ht : (pc : Int) + dflt = (tgt : Int)) (k : zv_V Δ Γ Q (tgt) lv (st) hp sz ce sl) : zv_V Δ Γ Q (pc) lv (.int x :: st) hp sz ce sl := by
  obtain ⟨p, l, e, R0, s, m, args, below, meth, c⟩ := Γ
  obtain ⟨hx, hb, hml, hown, hts, hT, hr, hlk, hnm, hR⟩ := F
  intro H locs ls hH hlo hL
  exact lv_tableOut hx hb hd h ht (k H locs ls hH hlo hL)
theorem zv_tableIn (F : zv_F Δ Γ own nm cc nL ret R) {dflt lo hi : Int} {offs : Array Int} {len : Nat} {x : Int32} {off : Int} {tgt : Nat} (hd : decode cc pc = .ok (.tableswitch dflt lo hi offs, len)) (h1 : ¬ x.toInt < lo) (h2 : ¬ hi < x.toInt) (ho : offs[(x.toInt - lo).toNat]? = some off) (ht : (pc : Int) + off = (tgt : Int)) (k : zv_V Δ Γ Q (tgt) lv (st) hp sz ce sl) : zv_V Δ Γ Q (pc) lv (.int x :: st) hp sz ce sl := by
  obtain ⟨p, l, e, R0, s, m, args, below, meth, c⟩ := Γ
  obtain ⟨hx, hb, hml, hown, hts, hT, hr, hlk, hnm, hR⟩ := F
  intro H locs ls hH hlo hL
  exact lv_tableIn hx hb hd h1 h2 ho ht (k H locs ls hH hlo hL)
theorem zv_H.one {Δ : zv_D} {hp : zv_M} {sz : Nat} {H : Heap} (h : zv_H Δ hp sz H) {a : Nat} {e : va_E} (ha : hp a = some e) : va_P Δ.2.1 zp_classes [(a, e)] H := by
  intro k q hk
  cases k with
  | zero => cases hk; exact (h.2.2.2 a e ha).2
  | succ k => simp at hk
theorem zv_get (F : zv_F Δ Γ own nm cc nL ret R) {ref C : String} {T : u_T} {N ci index a : Nat} {fs : List Value} {v : Value} (hd : decode cc pc = .ok (.getfield index, 3)) (ha : hp a = some (.inr (ci, fs))) (hc : zv_cls ci C T N) (j : Nat) (hj : j < N) (hlink : Cond.fieldLink own index ref (T j).2.1 (T j).2.2.1 ∈ zp_G) (href : (T j).1 = ref) (hv : fs[j]? = some v) (k : zv_V Δ Γ Q (pc + 3) lv (v :: st) hp sz ce sl) : zv_V Δ Γ Q (pc) lv (.ref a :: st) hp sz ce sl := by
  obtain ⟨p, l, e, R0, s, m, args, below, meth, c⟩ := Γ
  obtain ⟨hx, hb, hml, hown, hts, hT, hr, hlk, hnm, hR⟩ := F
  intro H locs ls hH hlo hL
  exact va_get hx hb hts hc.2.1 hown hT.1 (hH.one ha) 0 rfl hc.1 j hj (hts _ hlink) (fun x h => by rw [← href]; exact h) hv hd (k H locs ls hH hlo hL)
theorem zv_getN (F : zv_F Δ Γ own nm cc nL ret R) {ref C host : String} {T : u_T} {N ci index a : Nat} {fs : List Value} {v : Value} (hd : decode cc pc = .ok (.getfield index, 3)) (ha : hp a = some (.inr (ci, fs))) (hc : zv_cls ci C T N) (j : Nat) (hj : j < N) (hlink : Cond.fieldLinkNest own index ref (T j).2.1 (T j).2.2.1 host ∈ zp_N) (href : (T j).1 = ref) (hv : fs[j]? = some v) (k : zv_V Δ Γ Q (pc + 3) lv (v :: st) hp sz ce sl) : zv_V Δ Γ Q (pc) lv (.ref a :: st) hp sz ce sl := by
  obtain ⟨p, l, e, R0, s, m, args, below, meth, c⟩ := Γ
  obtain ⟨hx, hb, hml, hown, hts, hT, hr, hlk, hnm, hR⟩ := F
  intro H locs ls hH hlo hL
  exact va_getN hx hb hts hc.2.1 hown hT.1 (hH.one ha) 0 rfl hc.1 j hj (va_Nw.use rfl (hT.2.1 _ hlink)) (fun x h => by rw [← href]; exact h) hv hd (k H locs ls hH hlo hL)
theorem zv_iald (F : zv_F Δ Γ own nm cc nL ret R) {a t0 n : Nat} {cA : ClassId} {f : Nat → Int32} {i : Int32} (hd : decode cc pc = .ok (.iaload, 1)) (ha : hp a = some (.inl (cA, n, .inl f))) (ht : (zv_tys Δ)[t0]? = some (cA, .int)) (hin : vp_in i n) (k : zv_V Δ Γ Q (pc + 1) lv (.int (f i.toNatClampNeg) :: st) hp sz ce sl) : zv_V Δ Γ Q (pc) lv (.int i :: .ref a :: st) hp sz ce sl := by
  obtain ⟨p, l, e, R0, s, m, args, below, meth, c⟩ := Γ
  obtain ⟨hx, hb, hml, hown, hts, hT, hr, hlk, hnm, hR⟩ := F
  intro H locs ls hH hlo hL
  exact va_iald hx hb hT.1 (hH.one ha) 0 t0 rfl ht hin hd (k H locs ls hH hlo hL)
theorem zv_zald (F : zv_F Δ Γ own nm cc nL ret R) {a t0 n : Nat} {cA : ClassId} {f : Nat → Int32} {i : Int32} (hd : decode cc pc = .ok (.baload, 1)) (ha : hp a = some (.inl (cA, n, .inl f))) (ht : (zv_tys Δ)[t0]? = some (cA, .boolean)) (hin : vp_in i n) (k : zv_V Δ Γ Q (pc + 1) lv (.int (f i.toNatClampNeg) :: st) hp sz ce sl) : zv_V Δ Γ Q (pc) lv (.int i :: .ref a :: st) hp sz ce sl := by
  obtain ⟨p, l, e, R0, s, m, args, below, meth, c⟩ := Γ
  obtain ⟨hx, hb, hml, hown, hts, hT, hr, hlk, hnm, hR⟩ := F
  intro H locs ls hH hlo hL
  exact va_zald hx hb hT.1 (hH.one ha) 0 t0 rfl ht hin hd (k H locs ls hH hlo hL)
theorem zv_lald (F : zv_F Δ Γ own nm cc nL ret R) {a t0 n : Nat} {cA : ClassId} {f : Nat → Int64} {i : Int32} (hd : decode cc pc = .ok (.laload, 1)) (ha : hp a = some (.inl (cA, n, .inr (.inl f)))) (ht : (zv_tys Δ)[t0]? = some (cA, .long)) (hin : vp_in i n) (k : zv_V Δ Γ Q (pc + 1) lv (.long (f i.toNatClampNeg) :: st) hp sz ce sl) : zv_V Δ Γ Q (pc) lv (.int i :: .ref a :: st) hp sz ce sl := by
  obtain ⟨p, l, e, R0, s, m, args, below, meth, c⟩ := Γ
  obtain ⟨hx, hb, hml, hown, hts, hT, hr, hlk, hnm, hR⟩ := F
  intro H locs ls hH hlo hL
  exact va_lald hx hb hT.1 (hH.one ha) 0 t0 rfl ht hin hd (k H locs ls hH hlo hL)
theorem zv_aald (F : zv_F Δ Γ own nm cc nL ret R) {a t0 n b : Nat} {cA : ClassId} {C : String} {f : Nat → Option Nat} {i : Int32} (hd : decode cc pc = .ok (.aaload, 1)) (ha : hp a = some (.inl (cA, n, .inr (.inr (.inr (.inr f)))))) (ht : (zv_tys Δ)[t0]? = some (cA, .object C)) (hin : vp_in i n) (hb1 : f i.toNatClampNeg = some b) (k : zv_V Δ Γ Q (pc + 1) lv (.ref b :: st) hp sz ce sl) : zv_V Δ Γ Q (pc) lv (.int i :: .ref a :: st) hp sz ce sl := by
  obtain ⟨p, l, e, R0, s, m, args, below, meth, c⟩ := Γ
  obtain ⟨hx, hb, hml, hown, hts, hT, hr, hlk, hnm, hR⟩ := F
  intro H locs ls hH hlo hL
  refine va_aldq hx hb hT.1 (hH.one ha) 0 t0 rfl ht hin hd ?_
  rw [hb1]
  exact k H locs ls hH hlo hL
theorem zv_alen (F : zv_F Δ Γ own nm cc nL ret R) {a t0 : Nat} {cA : ClassId} {x : vp_A} {ty : FieldType} {v : Int32} (hd : decode cc pc = .ok (.arraylength, 1)) (ha : hp a = some (.inl (cA, x))) (ht : (zv_tys Δ)[t0]? = some (cA, ty)) (hv : Int32.ofNat x.1 = v) (k : zv_V Δ Γ Q (pc + 1) lv (.int v :: st) hp sz ce sl) : zv_V Δ Γ Q (pc) lv (.ref a :: st) hp sz ce sl := by
  obtain ⟨p, l, e, R0, s, m, args, below, meth, c⟩ := Γ
  obtain ⟨hx, hb, hml, hown, hts, hT, hr, hlk, hnm, hR⟩ := F
  intro H locs ls hH hlo hL
  exact va_alen hx hb hT.1 (hH.one ha) 0 t0 rfl ht hv hd (k H locs ls hH hlo hL)
theorem zv_sld (F : zv_F Δ Γ own nm cc nL ret R) {b N : Nat} {xs : Nat → Int32} {i : Int32} (hd : decode cc pc = .ok (.iaload, 1)) (hX : va_X b N xs Γ.2.2.2.2.1 Δ.1) (hbl : b < Δ.1.size) (hin : vp_in i N) (k : zv_V Δ Γ Q (pc + 1) lv (.int (xs i.toNatClampNeg) :: st) hp sz ce sl) : zv_V Δ Γ Q (pc) lv (.int i :: .ref b :: st) hp sz ce sl := by
  obtain ⟨p, l, e, R0, s, m, args, below, meth, c⟩ := Γ
  obtain ⟨hx, hb, hml, hown, hts, hT, hr, hlk, hnm, hR⟩ := F
  intro H locs ls hH hlo hL
  exact va_sld (A := fun q => Δ.1.size ≤ q) hx hb hX hbl (by omega) ⟨by rw [hH.1]; exact hH.2.1, fun q hq _ => hH.2.2.1 q hq, hlo⟩ hin hd (k H locs ls hH hlo hL)
theorem zv_slen (F : zv_F Δ Γ own nm cc nL ret R) {b N : Nat} {xs : Nat → Int32} (hd : decode cc pc = .ok (.arraylength, 1)) (hX : va_X b N xs Γ.2.2.2.2.1 Δ.1) (hbl : b < Δ.1.size) (k : zv_V Δ Γ Q (pc + 1) lv (.int (Int32.ofNat N) :: st) hp sz ce sl) : zv_V Δ Γ Q (pc) lv (.ref b :: st) hp sz ce sl := by
  obtain ⟨p, l, e, R0, s, m, args, below, meth, c⟩ := Γ
  obtain ⟨hx, hb, hml, hown, hts, hT, hr, hlk, hnm, hR⟩ := F
  intro H locs ls hH hlo hL
  exact va_slen (A := fun q => Δ.1.size ≤ q) hx hb hX hbl (by omega) ⟨by rw [hH.1]; exact hH.2.1, fun q hq _ => hH.2.2.1 q hq, hlo⟩ hd (k H locs ls hH hlo hL)
theorem zv_put (F : zv_F Δ Γ own nm cc nL ret R) {ref C : String} {T : u_T} {N ci index a : Nat} {fs : List Value} {v : Value} {ty : FieldType} (hd : decode cc pc = .ok (.putfield index, 3)) (ha : hp a = some (.inr (ci, fs))) (hc : zv_cls ci C T N) (j : Nat) (hj : j < N) (hlink : Cond.fieldLink own index ref (T j).2.1 (T j).2.2.1 ∈ zp_G) (href : (T j).1 = ref) (hfin : (T j).2.2.2 = false) (hty1 : parseFieldDescriptor (T j).2.2.1 = some ty) (hn : narrow ty v = v) (hfit : fits ty v = true) (hl : j < fs.length) (k : ∀ hp1 : zv_M, hp1 = va_up hp a (some (.inr (ci, fs.set j v))) → zv_V Δ Γ Q (pc + 3) lv st hp1 sz ce sl) : zv_V Δ Γ Q (pc) lv (v :: .ref a :: st) hp sz ce sl := by
  obtain ⟨p, l, e, R0, s, m, args, below, meth, c⟩ := Γ
  obtain ⟨hx, hb, hml, hown, hts, hT, hr, hlk, hnm, hR⟩ := F
  intro H locs ls hH hlo hL
  obtain ⟨hc1, hin, ⟨ty0, hty⟩, hnn⟩ := hc
  have hap := va_apart (own := own) hts hin ty0 hty hnn hT.1 hc1
  obtain ⟨r0, g1, cell, q1, q2, q3, q4⟩ := (hH.2.2.2 a _ ha).2
  have hr0 : r0 = (C, T, N) := Option.some.inj (g1.symm.trans hc1)
  subst hr0
  obtain ⟨hS, hfc, kC, hkC, hkind⟩ := hT.1.1 ci _ hc1
  obtain ⟨cf, kf, fi, f, hi, hsl⟩ := hS j hj
  have hlay := hts _ (hin _ (u_in_lay hj))
  unfold u_lay at hlay
  rw [if_neg (by rw [hfin]; decide)] at hlay
  have hst := (u_facts hfc hkC (u_lays hts hin hj) hi).1
  have h6 := u_store hfc hkC hkind hlay hi hty1 hn hfit
  refine W.putK hx hb (f := f) ⟨hown, hts _ hlink, ⟨_, _, _, by rw [← href]; exact hi⟩, hst⟩ (by rw [q2]; exact h6) q1 q3 (by rw [hsl]; exact k2_hasslot (q4 j hj)) rfl rfl hd fun H1 e1 e2 e3 => ?_
  rw [hsl] at e1 ⊢
  exact k _ rfl H1 _ ls (hH.put ha ⟨_, hc1, t_OB.to (V := updV (vp_V fs) j v) ⟨_, e1, q2, q3, t_set q4 hap hj v⟩ (fun i _ => vp_updV_set hl v i)⟩ e2 e3) (fun q hq => by
    rcases List.mem_append.mp hq with h9 | h9
    · exact hlo q h9
    · rw [List.mem_singleton.mp h9]
      exact (hH.2.2.2 a _ ha).1) hL
theorem zv_putN (F : zv_F Δ Γ own nm cc nL ret R) {ref C host : String} {T : u_T} {N ci index a : Nat} {fs : List Value} {v : Value} {ty : FieldType} (hd : decode cc pc = .ok (.putfield index, 3)) (ha : hp a = some (.inr (ci, fs))) (hc : zv_cls ci C T N) (j : Nat) (hj : j < N) (hlink : Cond.fieldLinkNest own index ref (T j).2.1 (T j).2.2.1 host ∈ zp_N) (href : (T j).1 = ref) (hfin : (T j).2.2.2 = false) (hty1 : parseFieldDescriptor (T j).2.2.1 = some ty) (hn : narrow ty v = v) (hfit : fits ty v = true) (hl : j < fs.length) (k : ∀ hp1 : zv_M, hp1 = va_up hp a (some (.inr (ci, fs.set j v))) → zv_V Δ Γ Q (pc + 3) lv st hp1 sz ce sl) : zv_V Δ Γ Q (pc) lv (v :: .ref a :: st) hp sz ce sl := by
  obtain ⟨p, l, e, R0, s, m, args, below, meth, c⟩ := Γ
  obtain ⟨hx, hb, hml, hown, hts, hT, hr, hlk, hnm, hR⟩ := F
  intro H locs ls hH hlo hL
  obtain ⟨hc1, hin, ⟨ty0, hty⟩, hnn⟩ := hc
  have hap := va_apart (own := own) hts hin ty0 hty hnn hT.1 hc1
  obtain ⟨r0, g1, cell, q1, q2, q3, q4⟩ := (hH.2.2.2 a _ ha).2
  have hr0 : r0 = (C, T, N) := Option.some.inj (g1.symm.trans hc1)
  subst hr0
  obtain ⟨hS, hfc, kC, hkC, hkind⟩ := hT.1.1 ci _ hc1
  obtain ⟨cf, kf, fi, f, hi, hsl⟩ := hS j hj
  have hlay := hts _ (hin _ (u_in_lay hj))
  unfold u_lay at hlay
  rw [if_neg (by rw [hfin]; decide)] at hlay
  have hst := (u_facts hfc hkC (u_lays hts hin hj) hi).1
  have h6 := u_store hfc hkC hkind hlay hi hty1 hn hfit
  refine va_WputK hx hb (f := f) hown (va_Nw.use rfl (hT.2.1 _ hlink)) (by rw [← href]; exact hi) hst (by rw [q2]; exact h6) q1 q3 (by rw [hsl]; exact k2_hasslot (q4 j hj)) rfl rfl hd fun H1 e1 e2 e3 => ?_
  rw [hsl] at e1 ⊢
  exact k _ rfl H1 _ ls (hH.put ha ⟨_, hc1, t_OB.to (V := updV (vp_V fs) j v) ⟨_, e1, q2, q3, t_set q4 hap hj v⟩ (fun i _ => vp_updV_set hl v i)⟩ e2 e3) (fun q hq => by
    rcases List.mem_append.mp hq with h9 | h9
    · exact hlo q h9
    · rw [List.mem_singleton.mp h9]
      exact (hH.2.2.2 a _ ha).1) hL
theorem zv_putF (F : zv_F Δ Γ own nm cc nL ret R) {ref C : String} {T : u_T} {N ci index a : Nat} {fs : List Value} {v : Value} {ty : FieldType} (hd : decode cc pc = .ok (.putfield index, 3)) (ha : hp a = some (.inr (ci, fs))) (hc : zv_cls ci C T N) (j : Nat) (hj : j < N) (hlink : Cond.fieldLink own index ref (T j).2.1 (T j).2.2.1 ∈ zp_G) (href : (T j).1 = ref) (hfin : (T j).2.2.2 = true) (hini : nm = "<init>") (hdecl : (T j).1 = own) (hty1 : parseFieldDescriptor (T j).2.2.1 = some ty) (hn : narrow ty v = v) (hfit : fits ty v = true) (hl : j < fs.length) (k : ∀ hp1 : zv_M, hp1 = va_up hp a (some (.inr (ci, fs.set j v))) → zv_V Δ Γ Q (pc + 3) lv st hp1 sz ce sl) : zv_V Δ Γ Q (pc) lv (v :: .ref a :: st) hp sz ce sl := by
  obtain ⟨p, l, e, R0, s, m, args, below, meth, c⟩ := Γ
  obtain ⟨hx, hb, hml, hown, hts, hT, hr, hlk, hnm, hR⟩ := F
  intro H locs ls hH hlo hL
  obtain ⟨hc1, hin, ⟨ty0, hty⟩, hnn⟩ := hc
  have hap := va_apart (own := own) hts hin ty0 hty hnn hT.1 hc1
  obtain ⟨r0, g1, cell, q1, q2, q3, q4⟩ := (hH.2.2.2 a _ ha).2
  have hr0 : r0 = (C, T, N) := Option.some.inj (g1.symm.trans hc1)
  subst hr0
  obtain ⟨hS, hfc, kC, hkC, hkind⟩ := hT.1.1 ci _ hc1
  obtain ⟨cf, kf, fi, f, hi, hsl⟩ := hS j hj
  have hlay := hts _ (hin _ (u_in_lay hj))
  unfold u_lay at hlay
  rw [if_pos hfin] at hlay
  have hst := (u_facts hfc hkC (u_lays hts hin hj) hi).1
  have hcf : m.cls = cf := by
    obtain ⟨_, _, c', _, _, _, -, -, hf', -, -, -, hown2, -⟩ := Cond.laysFinal_spec hlay
    have e1 : c' = cf := by have := hi.symm.trans hf'; simp at this; exact this.1.symm
    rw [hdecl] at hown2
    rw [← e1]; exact Option.some.inj (hown.symm.trans hown2)
  have h6 := u_fits hfc hkC hkind (Or.inr hlay) hi hty1 hn hfit
  refine W.putFinK hx hb hown (hts _ hlink) (by rw [← href]; exact hi) hst hcf (hnm.trans hini) (by rw [q2]; exact h6) q1 q3 (by rw [hsl]; exact k2_hasslot (q4 j hj)) rfl rfl hd fun H1 e1 e2 e3 => ?_
  rw [hsl] at e1 ⊢
  exact k _ rfl H1 _ ls (hH.put ha ⟨_, hc1, t_OB.to (V := updV (vp_V fs) j v) ⟨_, e1, q2, q3, t_set q4 hap hj v⟩ (fun i _ => vp_updV_set hl v i)⟩ e2 e3) (fun q hq => by
    rcases List.mem_append.mp hq with h9 | h9
    · exact hlo q h9
    · rw [List.mem_singleton.mp h9]
      exact (hH.2.2.2 a _ ha).1) hL
theorem zv_iast (F : zv_F Δ Γ own nm cc nL ret R) {a t0 n : Nat} {cA : ClassId} {f : Nat → Int32} {i : Int32} {x : Int32} (hd : decode cc pc = .ok (.iastore, 1)) (ha : hp a = some (.inl (cA, n, .inl f))) (ht : (zv_tys Δ)[t0]? = some (cA, .int)) (hin : vp_in i n) (k : ∀ hp1 : zv_M, hp1 = va_up hp a (some (.inl (cA, n, .inl (upd f i.toNatClampNeg x)))) → zv_V Δ Γ Q (pc + 1) lv st hp1 sz ce sl) : zv_V Δ Γ Q (pc) lv (.int x :: .int i :: .ref a :: st) hp sz ce sl := by
  obtain ⟨p, l, e, R0, s, m, args, below, meth, c⟩ := Γ
  obtain ⟨hx, hb, hml, hown, hts, hT, hr, hlk, hnm, hR⟩ := F
  intro H locs ls hH hlo hL
  have hcell : H[a]? = some (vp_cell cA (n, .inl f)) := (hH.2.2.2 a _ ha).2
  refine W.iast hx hb hcell ((hT.1.2 t0 _ ht).1 n _) (fun q => by cases q) (by show ¬ (i < 0 ∨ (arrV _ _ _).slots.size ≤ _); rw [arrV_size]; exact hin) rfl rfl hd fun H1 e1 e2 e3 => ?_
  refine k _ rfl H1 _ ls (hH.put ha ?_ e2 e3) (fun q hq => by
    rcases List.mem_append.mp hq with h9 | h9
    · exact hlo q h9
    · rw [List.mem_singleton.mp h9]
      exact (hH.2.2.2 a _ ha).1) hL
  show H1[a]? = some (vp_cell _ _)
  rw [e1, vp_cell_i, vp_cell_i, arrV_store]
  congr 2
  funext q
  by_cases hq : q = i.toNatClampNeg
  · subst hq
    simp [updV, upd]
    try rfl
  · simp [updV, upd, hq]
theorem zv_zast (F : zv_F Δ Γ own nm cc nL ret R) {a t0 n : Nat} {cA : ClassId} {f : Nat → Int32} {i : Int32} {x : Int32} (hd : decode cc pc = .ok (.bastore, 1)) (ha : hp a = some (.inl (cA, n, .inl f))) (ht : (zv_tys Δ)[t0]? = some (cA, .boolean)) (hin : vp_in i n) (k : ∀ hp1 : zv_M, hp1 = va_up hp a (some (.inl (cA, n, .inl (upd f i.toNatClampNeg (vp_nar .boolean x))))) → zv_V Δ Γ Q (pc + 1) lv st hp1 sz ce sl) : zv_V Δ Γ Q (pc) lv (.int x :: .int i :: .ref a :: st) hp sz ce sl := by
  obtain ⟨p, l, e, R0, s, m, args, below, meth, c⟩ := Γ
  obtain ⟨hx, hb, hml, hown, hts, hT, hr, hlk, hnm, hR⟩ := F
  intro H locs ls hH hlo hL
  have hcell : H[a]? = some (vp_cell cA (n, .inl f)) := (hH.2.2.2 a _ ha).2
  refine W.zast hx hb hcell ((hT.1.2 t0 _ ht).1 n _) (fun q => by cases q) (by show ¬ (i < 0 ∨ (arrV _ _ _).slots.size ≤ _); rw [arrV_size]; exact hin) rfl rfl hd fun H1 e1 e2 e3 => ?_
  refine k _ rfl H1 _ ls (hH.put ha ?_ e2 e3) (fun q hq => by
    rcases List.mem_append.mp hq with h9 | h9
    · exact hlo q h9
    · rw [List.mem_singleton.mp h9]
      exact (hH.2.2.2 a _ ha).1) hL
  show H1[a]? = some (vp_cell _ _)
  rw [e1, vp_cell_i, vp_cell_i, arrV_store]
  congr 2
  funext q
  by_cases hq : q = i.toNatClampNeg
  · subst hq
    simp [updV, upd, vp_nar]
    try rfl
  · simp [updV, upd, vp_nar, hq]
theorem zv_last (F : zv_F Δ Γ own nm cc nL ret R) {a t0 n : Nat} {cA : ClassId} {f : Nat → Int64} {i : Int32} {x : Int64} (hd : decode cc pc = .ok (.lastore, 1)) (ha : hp a = some (.inl (cA, n, .inr (.inl f)))) (ht : (zv_tys Δ)[t0]? = some (cA, .long)) (hin : vp_in i n) (k : ∀ hp1 : zv_M, hp1 = va_up hp a (some (.inl (cA, n, .inr (.inl (vp_updL f i.toNatClampNeg x))))) → zv_V Δ Γ Q (pc + 1) lv st hp1 sz ce sl) : zv_V Δ Γ Q (pc) lv (.long x :: .int i :: .ref a :: st) hp sz ce sl := by
  obtain ⟨p, l, e, R0, s, m, args, below, meth, c⟩ := Γ
  obtain ⟨hx, hb, hml, hown, hts, hT, hr, hlk, hnm, hR⟩ := F
  intro H locs ls hH hlo hL
  have hcell : H[a]? = some (vp_cell cA (n, .inr (.inl f))) := (hH.2.2.2 a _ ha).2
  refine W.last hx hb hcell ((hT.1.2 t0 _ ht).1 n _) (fun q => by cases q) (by show ¬ (i < 0 ∨ (arrV _ _ _).slots.size ≤ _); rw [arrV_size]; exact hin) rfl rfl hd fun H1 e1 e2 e3 => ?_
  refine k _ rfl H1 _ ls (hH.put ha ?_ e2 e3) (fun q hq => by
    rcases List.mem_append.mp hq with h9 | h9
    · exact hlo q h9
    · rw [List.mem_singleton.mp h9]
      exact (hH.2.2.2 a _ ha).1) hL
  show H1[a]? = some (vp_cell _ _)
  rw [e1, vp_cell_l, vp_cell_l, arrV_store]
  congr 2
  funext q
  by_cases hq : q = i.toNatClampNeg
  · subst hq
    simp [updV, vp_updL]
    try rfl
  · simp [updV, vp_updL, hq]
theorem zv_aast (F : zv_F Δ Γ own nm cc nL ret R) {a t0 n v ci : Nat} {cA : ClassId} {r : vw_C} {vs : List Value} {f : Nat → Option Nat} {i : Int32} (hd : decode cc pc = .ok (.aastore, 1)) (ha : hp a = some (.inl (cA, n, .inr (.inr (.inr (.inr f)))))) (ht : (zv_tys Δ)[t0]? = some (cA, .object r.1)) (hv : hp v = some (.inr (ci, vs))) (hc : zp_classes[ci]? = some r) (hin : vp_in i n) (k : ∀ hp1 : zv_M, hp1 = va_up hp a (some (.inl (cA, n, .inr (.inr (.inr (.inr (va_up f i.toNatClampNeg (some v)))))))) → zv_V Δ Γ Q (pc + 1) lv st hp1 sz ce sl) : zv_V Δ Γ Q (pc) lv (.ref v :: .int i :: .ref a :: st) hp sz ce sl := by
  obtain ⟨p, l, e, R0, s, m, args, below, meth, c⟩ := Γ
  obtain ⟨hx, hb, hml, hown, hts, hT, hr, hlk, hnm, hR⟩ := F
  intro H locs ls hH hlo hL
  have hlt : i.toNatClampNeg < n := Nat.not_le.mp fun q => hin (Or.inr q)
  have h0 : ¬ i < 0 := fun q => hin (Or.inl q)
  obtain ⟨r', hr', cellV, g1, g2, g3, -⟩ := (hH.2.2.2 v _ hv).2
  have hcell : H[a]? = some (vp_cell cA (n, .inr (.inr (.inr (.inr f))))) := (hH.2.2.2 a _ ha).2
  have hcls := (hT.1.1 ci r hc).2
  obtain ⟨kA, comp, k1, k2, k3, -⟩ := (hT.1.2 t0 _ ht).2
  have hcomp : comp = Δ.2.1.1 ci := Option.some.inj (k3.symm.trans hcls.1)
  subst hcomp
  obtain ⟨kC, hkC, -⟩ := hcls.2
  refine W.aast hx hb hcell (fun q h => by cases h) (fun h => by cases h) k1 k2 rfl hkC ⟨h0, by show _ < (arrV _ _ _).slots.size; rw [arrV_size]; exact hlt⟩ g1 (fun q h => by rw [g3] at h; cases h) (by rw [g2]; exact hkC) (by rw [g2]; exact va_assign hcls) rfl rfl hd fun H1 e1 e2 e3 => ?_
  refine k _ rfl H1 _ ls (hH.put ha ?_ e2 e3) (fun q hq => by
    rcases List.mem_append.mp hq with h9 | h9
    · exact hlo q h9
    · rw [List.mem_singleton.mp h9]
      exact (hH.2.2.2 a _ ha).1) hL
  show H1[a]? = some (vp_cell _ _)
  rw [e1, vp_cell_q, vp_cell_q, arrV_store]
  congr 2
  funext q
  by_cases hq : q = i.toNatClampNeg
  · subst hq
    simp [updV, va_up, va_rf]
  · simp [updV, va_up, hq]
theorem zv_new (F : zv_F Δ Γ own nm cc nL ret R) {C : String} {T : u_T} {N ci index : Nat} {fs : List Value} (hd : decode cc pc = .ok (.new index, 3)) (hc : zv_cls ci C T N) (ty : Nat → FieldType) (hty : ∀ j, j < N → parseFieldDescriptor (T j).2.2.1 = some (ty j)) (hfs : ∀ j, j < N → defaultValue (ty j) = vp_V fs j) (h1 : Cond.classLink own index C ∈ zp_G) (h2 : Cond.instantiable C N ∈ zp_G) (h3 : Cond.initialized C ∈ zp_G) (hce : ce + 1 ≤ R.cells) (hsl : sl + N ≤ R.slots) (k : ∀ hp1 : zv_M, (∀ (a : Nat) (e : va_E), hp a = some e → a < sz) → hp1 = va_up hp sz (some (.inr (ci, fs))) → zv_V Δ Γ Q (pc + 3) lv (.ref sz :: st) hp1 (sz + 1) (ce + 1) (sl + N)) : zv_V Δ Γ Q (pc) lv (st) hp sz ce sl := by
  obtain ⟨p, l, e, R0, s, m, args, below, meth, c⟩ := Γ
  obtain ⟨hx, hb, hml, hown, hts, hT, hr, hlk, hnm, hR⟩ := F
  intro H locs ls hH hlo hL
  have hKn := hT.1.1 ci _ hc.1
  have hR' : R0 = R := hR
  subst hR'
  refine W.newcK hx hb hown (hts _ h1) (hts _ h2) (hts _ h3) rfl hd hce hsl hKn.2.1 hH.1 fun H1 kC hkC e1 z1 o1 => ?_
  exact k _ hH.lt rfl H1 locs ls (hH.push ⟨_, hc.1, (u_born ty hts hc.2.1 hKn hkC e1 hty).to hfs⟩ z1 o1) hlo hL
theorem zv_newa (F : zv_F Δ Γ own nm cc nL ret R) {atype : ArrayType} {ty : FieldType} {n : Int32} {N t0 : Nat} {a0 : vp_A} {cA : ClassId} (hd : decode cc pc = .ok (.newarray atype, 2)) (hw : Cond.arrayClass ty ∈ zp_G) (hty : newarray.typeOf atype = ty) (ht : (zv_tys Δ)[t0]? = some (cA, ty)) (hprim : ∀ U : State, va_RA U cA ty → U.vm.findClass ("[" ++ ty.toString) = some cA) (ha : ∀ cB : ClassId, vp_cell cB a0 = arrV cB N (fun _ => defaultValue ty)) (hn : ¬ n < 0) (hN : n.toNatClampNeg = N) (hbytes : N * componentBytes ty ≤ 536870912) (hce : ce + 1 ≤ R.cells) (hsl : sl + N ≤ R.slots) (k : ∀ hp1 : zv_M, (∀ (a : Nat) (e : va_E), hp a = some e → a < sz) → hp1 = va_up hp sz (some (.inl (cA, a0))) → zv_V Δ Γ Q (pc + 2) lv (.ref sz :: st) hp1 (sz + 1) (ce + 1) (sl + N)) : zv_V Δ Γ Q (pc) lv (.int n :: st) hp sz ce sl := by
  obtain ⟨p, l, e, R0, s, m, args, below, meth, c⟩ := Γ
  obtain ⟨hx, hb, hml, hown, hts, hT, hr, hlk, hnm, hR⟩ := F
  intro H locs ls hH hlo hL
  have hR' : R0 = R := hR
  subst hR'
  subst hty
  refine va_newaK hx hb (hts _ hw) rfl hd rfl hn hN hbytes hce hsl hH.1 fun H1 cB e1 z1 o1 hAr hNm => ?_
  have hcB : cB = cA := Option.some.inj (hNm.symm.trans (hprim s (hT.1.2 t0 _ ht).2))
  subst hcB
  refine k _ hH.lt rfl H1 locs ls (hH.push ?_ z1 o1) hlo hL
  show H1[sz]? = some (vp_cell _ _)
  rw [ha]
  exact e1
theorem zv_newq (F : zv_F Δ Γ own nm cc nL ret R) {C : String} {index : Nat} {n : Int32} {N t0 : Nat} {cA : ClassId} (hd : decode cc pc = .ok (.anewarray index, 3)) (h1 : Cond.classLink own index C ∈ zp_G) (hA : C ∈ zp_A) (ht : (zv_tys Δ)[t0]? = some (cA, .object C)) (hn : ¬ n < 0) (hN : n.toNatClampNeg = N) (hbytes : N * 4 ≤ 536870912) (hce : ce + 1 ≤ R.cells) (hsl : sl + N ≤ R.slots) (k : ∀ hp1 : zv_M, (∀ (a : Nat) (e : va_E), hp a = some e → a < sz) → hp1 = va_up hp sz (some (.inl (cA, N, .inr (.inr (.inr (.inr (fun _ => none))))))) → zv_V Δ Γ Q (pc + 3) lv (.ref sz :: st) hp1 (sz + 1) (ce + 1) (sl + N)) : zv_V Δ Γ Q (pc) lv (.int n :: st) hp sz ce sl := by
  obtain ⟨p, l, e, R0, s, m, args, below, meth, c⟩ := Γ
  obtain ⟨hx, hb, hml, hown, hts, hT, hr, hlk, hnm, hR⟩ := F
  intro H locs ls hH hlo hL
  have hR' : R0 = R := hR
  subst hR'
  subst hN
  refine W.anew hx hb hown (hts _ h1) (va_AO.use (hT.2.2.2 C hA)) rfl hd rfl hn hbytes hce hsl fun cB kA comp f1 f2 f3 f4 => ?_
  obtain ⟨kA2, comp2, b1, b2, b3, b4⟩ := (hT.1.2 t0 _ ht).2
  have hcB : cB = cA := Option.some.inj (f1.symm.trans b4)
  subst hcB
  have hsz := hH.1
  generalize hH1 : H.push ({ cls := cB, slots := Array.replicate n.toNatClampNeg .null, vm := .none } : Cell) = H1
  have z1 : H1.size = sz + 1 := by rw [← hH1, Array.size_push, hsz]
  have e1 : H1[sz]? = some (arrV cB n.toNatClampNeg (fun _ => .null)) := by rw [← hH1, ← hsz, Array.getElem?_push_size, ← arrV_new]
  have o1 : ∀ q : Nat, q < sz → H1[q]? = H[q]? := fun q hq => by rw [← hH1, Array.getElem?_push, if_neg (by rw [hsz]; exact Nat.ne_of_lt hq)]
  rw [hsz]
  refine k _ hH.lt rfl H1 locs ls (hH.push ?_ z1 o1) hlo hL
  show H1[sz]? = some (vp_cell _ _)
  rw [vp_cell_q]
  exact e1
end ZV
def zv_room (d mc ms : Nat) : Room := { frames := d, cells := mc, slots := ms, locals := 39 * d }
def zv_Q (Δ : zv_D) (post : Option Value → zv_M → Nat → Prop) : Array Value → State → Outcome → State → Prop := fun _ _ oc t => ∃ (r : Option Value) (hp1 : zv_M) (sz1 : Nat), oc = .returned r ∧ post r hp1 sz1 ∧ zv_H Δ hp1 sz1 t.heap
def zv_Pc (Δ : zv_D) (av : List Value) (hp : zv_M) (sz : Nat) : Array Value → State → Prop := va_Pc av (fun U => zv_H Δ hp sz U.heap ∧ zv_T Δ U)
/-- a contract: from the picture hp the method returns, and the answer and the new picture have post; at most mc cells of ms slots are new -/
def zv_E (l : Launch) (Δ : zv_D) (d : Nat) (y : MethodName) (bytes : ByteArray) (maxL : Nat) (ret : Option FieldType) (av : List Value) (hp : zv_M) (sz mc ms : Nat) (post : Option Value → zv_M → Nat → Prop) : Prop :=
  Met l y (Cond.code y bytes maxL ret :: zp_G) (zv_room d mc ms) (zv_Pc Δ av hp sz) (zv_Q Δ post) mc ms (fun q => Δ.1.size ≤ q)
theorem zv_blind {Δ : zv_D} {av : List Value} {hp : zv_M} {sz : Nat} : FrameBlind (zv_Pc Δ av hp sz) := fun a U g mk q => ⟨q.1, q.2.1, zv_T.same (s := U) (U := U.calling g mk a) rfl q.2.2⟩
def zv_args : List Value → Nat → List (Option Value)
  | [], n => List.replicate n none
  | v :: l, n => if v.category = 2 then some v :: none :: zv_args l (n - 2) else some v :: zv_args l (n - 1)

theorem zv_args_len : ∀ (av : List Value) (n : Nat), (lg_sl av).length ≤ n → (zv_args av n).length = n
  | [], n, _ => by simp [zv_args]
  | v :: l, n, h => by
    by_cases hc : v.category = 2
    · have h2 : (lg_sl l).length + 2 ≤ n := by simp [lg_sl, hc] at h ⊢; omega
      simp only [zv_args, hc, if_true, List.length_cons]
      rw [zv_args_len l (n - 2) (by omega)]
      omega
    · have h2 : (lg_sl l).length + 1 ≤ n := by simp [lg_sl, hc] at h ⊢; omega
      simp only [zv_args, hc, if_false, List.length_cons]
      rw [zv_args_len l (n - 1) (by omega)]
      omega
theorem zv_args_mem : ∀ (av : List Value) (n k i : Nat) (v : Value), (zv_args av n)[i]? = some (some v) → (k + i, v) ∈ lv_args k av
  | [], n, k, i, v, h => by
    simp only [zv_args, List.getElem?_replicate] at h
    split at h <;> simp at h
  | w :: l, n, k, i, v, h => by
    by_cases hc : w.category = 2
    · simp only [zv_args, hc, if_true] at h
      simp only [lv_args, hc, if_true]
      match i, h with
      | 0, h => simp at h; subst h; exact List.mem_cons_self
      | 1, h => simp at h
      | j + 2, h =>
        have h2 : (zv_args l (n - 2))[j]? = some (some v) := by simpa using h
        have := zv_args_mem l (n - 2) (k + 2) j v h2
        rw [show k + (j + 2) = k + 2 + j by omega]
        exact List.mem_cons_of_mem _ this
    · simp only [zv_args, hc, if_false] at h
      simp only [lv_args, hc, if_false]
      match i, h with
      | 0, h => simp at h; subst h; exact List.mem_cons_self
      | j + 1, h =>
        have h2 : (zv_args l (n - 1))[j]? = some (some v) := by simpa using h
        have := zv_args_mem l (n - 1) (k + 1) j v h2
        rw [show k + (j + 1) = k + 1 + j by omega]
        exact List.mem_cons_of_mem _ this
def zv_QQ (Δ : zv_D) (Γ : zv_C) (mc ms : Nat) (post : Option Value → zv_M → Nat → Prop) : State → Prop := MQ Γ.2.2.2.2.2.2.2.1 (zv_Q Δ post) Γ.2.2.2.2.2.2.1 Γ.2.2.2.2.1 mc ms (fun q => Δ.1.size ≤ q)
/-- a contract out of the walk of the body -/
theorem zv_E.intro {l : Launch} {Δ : zv_D} {d : Nat} {y : MethodName} {bytes : ByteArray} {maxL : Nat} {ret : Option FieldType} {av : List Value} {hp : zv_M} {sz mc ms : Nat} {post : Option Value → zv_M → Nat → Prop} (hy : plainName y.cls = true) (hlen : (lg_sl av).length ≤ maxL) {lv0 : List (Option Value)} (hlv : zv_args av maxL = lv0)
    (body : ∀ Γ : zv_C, Γ.2.1 = l → zv_F Δ Γ y.cls y.name bytes maxL ret (zv_room d mc ms) → zv_V Δ Γ (zv_QQ Δ Γ mc ms post) 0 lv0 [] hp sz 0 0) : zv_E l Δ d y bytes maxL ret av hp sz mc ms post := by
  refine Met.ofW (cc := bytes) (maxL := maxL) (ret := ret) hy rfl ?_
  intro p e s m args below meth c s₁ B hml hv
  obtain ⟨rfl, hH, hT⟩ := hv
  have hts := atoms_spec B.pre
  have hF : zv_F Δ (p, l, e, zv_room d mc ms, s, m, av.toArray, below, meth, c) y.cls y.name bytes maxL ret (zv_room d mc ms) :=
    ⟨B.exec, B.bytes, hml, findClass_of_methodNamed B.named, fun w hw => hts w (List.mem_cons_of_mem _ hw), hT, B.returns, B.notSynchronized, (name_of_methodNamed B.named B.method).1, rfl⟩
  have hl := lv_entry av (n := maxL) hlen
  rw [lg_entry_eq]
  subst hlv
  exact body _ rfl hF s.heap [] _ hH (fun q h => by cases h) ⟨by rw [hl.1, zv_args_len av maxL hlen], hl.2.1, fun i v h => hl.2.2 (i, v) (by have := zv_args_mem av maxL 0 i v h; simpa using this)⟩
section ZR
variable {Δ : zv_D} {Γ : zv_C} {own nm : String} {cc : ByteArray} {nL : Nat} {ret : Option FieldType} {R : Room} {pc : Nat} {lv : List (Option Value)} {hp : zv_M} {sz ce sl mc ms : Nat} {post : Option Value → zv_M → Nat → Prop}
theorem zv_iret (F : zv_F Δ Γ own nm cc nL (some .int) R) {v : Int32} (hd : decode cc pc = .ok (.ireturn, 1)) (hc : ce ≤ mc) (hs : sl ≤ ms) (hq : post (some (.int v)) hp sz) : zv_V Δ Γ (zv_QQ Δ Γ mc ms post) pc lv [.int v] hp sz ce sl := by
  obtain ⟨p, l, e, R0, s, m, args, below, meth, c⟩ := Γ
  obtain ⟨hx, hb, hml, hown, hts, hT, hr, hlk, hnm, hR⟩ := F
  intro H locs ls hH hlo hL
  refine W.widen hc hs ?_
  exact W.iret hx hb hr (fun t ht hW => ⟨_, hp, sz, rfl, hq, by rw [ht]; exact hH⟩) hlo hd hlk
theorem zv_zret (F : zv_F Δ Γ own nm cc nL (some .boolean) R) {v : Int32} (hd : decode cc pc = .ok (.ireturn, 1)) (hc : ce ≤ mc) (hs : sl ≤ ms) (hn : narrow .boolean (.int v) = .int v) (hq : post (some (.int v)) hp sz) : zv_V Δ Γ (zv_QQ Δ Γ mc ms post) pc lv [.int v] hp sz ce sl := by
  obtain ⟨p, l, e, R0, s, m, args, below, meth, c⟩ := Γ
  obtain ⟨hx, hb, hml, hown, hts, hT, hr, hlk, hnm, hR⟩ := F
  intro H locs ls hH hlo hL
  refine W.widen hc hs ?_
  exact W.zret hx hb hr hn (fun t ht hW => ⟨_, hp, sz, rfl, hq, by rw [ht]; exact hH⟩) hlo hd hlk
theorem zv_lret (F : zv_F Δ Γ own nm cc nL (some .long) R) {v : Int64} (hd : decode cc pc = .ok (.lreturn, 1)) (hc : ce ≤ mc) (hs : sl ≤ ms) (hq : post (some (.long v)) hp sz) : zv_V Δ Γ (zv_QQ Δ Γ mc ms post) pc lv [.long v] hp sz ce sl := by
  obtain ⟨p, l, e, R0, s, m, args, below, meth, c⟩ := Γ
  obtain ⟨hx, hb, hml, hown, hts, hT, hr, hlk, hnm, hR⟩ := F
  intro H locs ls hH hlo hL
  refine W.widen hc hs ?_
  exact W.lret hx hb hr (fun t ht hW => ⟨_, hp, sz, rfl, hq, by rw [ht]; exact hH⟩) hlo hd hlk
theorem zv_vret (F : zv_F Δ Γ own nm cc nL (none) R) (hd : decode cc pc = .ok (.return_, 1)) (hc : ce ≤ mc) (hs : sl ≤ ms) (hq : post (none) hp sz) : zv_V Δ Γ (zv_QQ Δ Γ mc ms post) pc lv [] hp sz ce sl := by
  obtain ⟨p, l, e, R0, s, m, args, below, meth, c⟩ := Γ
  obtain ⟨hx, hb, hml, hown, hts, hT, hr, hlk, hnm, hR⟩ := F
  intro H locs ls hH hlo hL
  refine W.widen hc hs ?_
  exact W.vret hx hb hr (fun t ht hW => ⟨_, hp, sz, rfl, hq, by rw [ht]; exact hH⟩) hlo hd hlk
end ZR
def zv_y (y : MethodName) (bytes : ByteArray) (maxL : Nat) (ret : Option FieldType) (n : Nat) : Prop :=
  Cond.code y bytes maxL ret ∈ zp_G ∧ Cond.initialized y.cls ∈ zp_G ∧ (y.cls ≠ "java/lang/invoke/MethodHandle" ∧ y.cls ≠ "java/lang/invoke/VarHandle" ∧ (parseMethodDescriptor y.desc).map (fun d => d.parameters.length) = some n)
theorem zv_gd {y : MethodName} {bytes : ByteArray} {maxL : Nat} {ret : Option FieldType} (h : Cond.code y bytes maxL ret ∈ zp_G) {ts : List Cond} (ht : ∀ w ∈ ts, w ∈ zp_G) : GoodIn zp_G (ts ++ Cond.code y bytes maxL ret :: zp_G) := fun w hw => by
  have hm : w ∈ zp_G := by
    rcases List.mem_append.mp hw with h1 | h1
    · exact ht w h1
    · rcases List.mem_cons.mp h1 with h2 | h2
      · rw [h2]; exact h
      · exact h2
  exact ⟨hm, zp_good w hm⟩
section ZCALL
variable {Δ : zv_D} {Γ : zv_C} {Q : State → Prop} {own nm : String} {cc : ByteArray} {nL : Nat} {ret : Option FieldType} {R : Room} {pc : Nat} {lv : List (Option Value)} {st : List Value} {hp : zv_M} {sz ce sl : Nat}
variable {y : MethodName} {bytes : ByteArray} {maxL n d mc ms index b : Nat} {ret1 : Option FieldType} {As rest : List Value} {post : Option Value → zv_M → Nat → Prop}
theorem zv_of_run {Qa : State → Outcome → State → Prop}
    (hr : ∀ (H : Heap) (locs : List Loc) (ls : Array Slot), zv_H Δ hp sz H → zv_L lv ls → va_Run Γ.1 Γ.2.1 Γ.2.2.1 Γ.2.2.2.1 Γ.2.2.2.2.1 Γ.2.2.2.2.2.1 Γ.2.2.2.2.2.2.1 Γ.2.2.2.2.2.2.2.1 Γ.2.2.2.2.2.2.2.2.1 Γ.2.2.2.2.2.2.2.2.2 H locs ce sl mc ms (F0 Γ.2.2.2.2.2.1 pc ls st) rest Qa (fun q => Δ.1.size ≤ q))
    (hq : ∀ (s1 : State) (oc : Outcome) (t : State), Qa s1 oc t → ∃ (r : Option Value) (hp1 : zv_M) (sz1 : Nat), oc = .returned r ∧ post r hp1 sz1 ∧ zv_H Δ hp1 sz1 t.heap)
    (k : ∀ (r : Option Value) (hp1 : zv_M) (sz1 : Nat), post r hp1 sz1 → zv_V Δ Γ Q (pc + 3) lv (r.toList ++ rest) hp1 sz1 (ce + mc) (sl + ms)) : zv_V Δ Γ Q pc lv st hp sz ce sl := by
  intro H locs ls hH hlo hL T hT X
  obtain ⟨v, s1, t, T1, L, h0, X1, hLf, e1, e2, hqa, goes⟩ := hr H locs ls hH hL T hT X
  obtain ⟨r, hp1, sz1, hv, hpost, hH1⟩ := hq s1 _ t hqa
  cases hv
  obtain ⟨t2, a1, b1⟩ := k _ hp1 sz1 hpost T1.heap (locs ++ L) ls (by rw [e1]; exact hH1) (fun q h => by
    rcases List.mem_append.mp h with h1 | h1
    · exact hlo q h1
    · exact hLf q h1) hL T1 rfl X1
  exact ⟨t2, goes t2 a1, b1⟩
theorem zv_of_run5 {Qa : State → Outcome → State → Prop}
    (hr : ∀ (H : Heap) (locs : List Loc) (ls : Array Slot), zv_H Δ hp sz H → zv_L lv ls → va_Run5 Γ.1 Γ.2.1 Γ.2.2.1 Γ.2.2.2.1 Γ.2.2.2.2.1 Γ.2.2.2.2.2.1 Γ.2.2.2.2.2.2.1 Γ.2.2.2.2.2.2.2.1 Γ.2.2.2.2.2.2.2.2.1 Γ.2.2.2.2.2.2.2.2.2 H locs ce sl mc ms (F0 Γ.2.2.2.2.2.1 pc ls st) rest Qa (fun q => Δ.1.size ≤ q))
    (hq : ∀ (s1 : State) (oc : Outcome) (t : State), Qa s1 oc t → ∃ (r : Option Value) (hp1 : zv_M) (sz1 : Nat), oc = .returned r ∧ post r hp1 sz1 ∧ zv_H Δ hp1 sz1 t.heap)
    (k : ∀ (r : Option Value) (hp1 : zv_M) (sz1 : Nat), post r hp1 sz1 → zv_V Δ Γ Q (pc + 5) lv (r.toList ++ rest) hp1 sz1 (ce + mc) (sl + ms)) : zv_V Δ Γ Q pc lv st hp sz ce sl := by
  intro H locs ls hH hlo hL T hT X
  obtain ⟨v, s1, t, T1, L, h0, X1, hLf, e1, e2, hqa, goes⟩ := hr H locs ls hH hL T hT X
  obtain ⟨r, hp1, sz1, hv, hpost, hH1⟩ := hq s1 _ t hqa
  cases hv
  obtain ⟨t2, a1, b1⟩ := k _ hp1 sz1 hpost T1.heap (locs ++ L) ls (by rw [e1]; exact hH1) (fun q h => by
    rcases List.mem_append.mp h with h1 | h1
    · exact hlo q h1
    · exact hLf q h1) hL T1 rfl X1
  exact ⟨t2, goes t2 a1, b1⟩
theorem zv_callV (F : zv_F Δ Γ own nm cc nL ret R) (hlv : lv.length = nL) {ci N : Nat} {T : u_T} {fs : List Value} (ho : hp b = some (.inr (ci, fs))) (hC : zp_classes[ci]? = some (y.cls, T, N)) (hd : decode cc pc = .ok (.invokevirtual index, 3)) (E : zv_E Γ.2.1 Δ d y bytes maxL ret1 (.ref b :: As) hp sz mc ms post) (hy : zv_y y bytes maxL ret1 n) (hi : Cond.instanceMethod y ∈ zp_G) (hse : Cond.selects y.cls y y ∈ zp_G) (hlk : Cond.methodLink own index y ∈ zp_G) (hn : As.length = n) (hroom : d + 1 ≤ R.frames ∧ 8 + (maxL + 11) + 39 * d ≤ R.locals) (hrest : (rest.map fun v => v.category).sum ≤ 8) (hf : ce + mc ≤ R.cells ∧ sl + ms ≤ R.slots) (k : ∀ (r : Option Value) (hp1 : zv_M) (sz1 : Nat), post r hp1 sz1 → zv_V Δ Γ Q (pc + 3) lv (r.toList ++ rest) hp1 sz1 (ce + mc) (sl + ms)) : zv_V Δ Γ Q pc lv (As.reverse ++ .ref b :: rest) hp sz ce sl := by
  obtain ⟨p, l, e, R0, s, m, args, below, meth, c⟩ := Γ
  obtain ⟨hx, hb0, hml, hown, hts, hT, hr, hlk0, hnm, hR⟩ := F
  have hR' : R0 = R := hR
  subst hR'
  exact zv_of_run (fun H locs ls hH hL => va_runV (C := y.cls) ⟨hx, hb0, hml, hown, hts⟩ E (⟨callB_of n hts (zv_gd hy.1 (ts := []) (fun w h => by cases h)) rfl rfl rfl (hts _ hy.2.1) (hts _ hlk) hy.2.2 hroom, hts _ hi, hts _ hse⟩) ⟨zv_blind, va_recv (q0 := 0) hT.1 (hH.one ho) hC rfl, fun U hU hW => ⟨rfl, by rw [hU]; exact hH, hT.warm hW⟩⟩ rfl hn (hL.1.trans hlv) rfl (lv_room hrest) hd hf) (fun s1 oc t h => h) k
theorem zv_callVN (F : zv_F Δ Γ own nm cc nL ret R) (hlv : lv.length = nL) {ci N : Nat} {T : u_T} {fs : List Value} (ho : hp b = some (.inr (ci, fs))) (hC : zp_classes[ci]? = some (y.cls, T, N)) (hd : decode cc pc = .ok (.invokevirtual index, 3)) (E : zv_E Γ.2.1 Δ d y bytes maxL ret1 (.ref b :: As) hp sz mc ms post) (hy : zv_y y bytes maxL ret1 n) (hi : Cond.instanceMethod y ∈ zp_G) (hse : Cond.selects y.cls y y ∈ zp_G) {host : String} (hlk : Cond.methodLinkNest own index y host ∈ zp_N) (hn : As.length = n) (hroom : d + 1 ≤ R.frames ∧ 8 + (maxL + 11) + 39 * d ≤ R.locals) (hrest : (rest.map fun v => v.category).sum ≤ 8) (hf : ce + mc ≤ R.cells ∧ sl + ms ≤ R.slots) (k : ∀ (r : Option Value) (hp1 : zv_M) (sz1 : Nat), post r hp1 sz1 → zv_V Δ Γ Q (pc + 3) lv (r.toList ++ rest) hp1 sz1 (ce + mc) (sl + ms)) : zv_V Δ Γ Q pc lv (As.reverse ++ .ref b :: rest) hp sz ce sl := by
  obtain ⟨p, l, e, R0, s, m, args, below, meth, c⟩ := Γ
  obtain ⟨hx, hb0, hml, hown, hts, hT, hr, hlk0, hnm, hR⟩ := F
  have hR' : R0 = R := hR
  subst hR'
  exact zv_of_run (fun H locs ls hH hL => va_runVN (C := y.cls) ⟨hx, hb0, hml, hown, hts⟩ E (⟨va_cnB n hts (zv_gd hy.1 (ts := []) (fun w h => by cases h)) rfl rfl rfl (hT.2.1 _ hlk) (hts _ hy.2.1) hy.2.2 hroom, hts _ hi, hts _ hse⟩) ⟨zv_blind, va_recv (q0 := 0) hT.1 (hH.one ho) hC rfl, fun U hU hW => ⟨rfl, by rw [hU]; exact hH, hT.warm hW⟩⟩ rfl hn (hL.1.trans hlv) rfl (lv_room hrest) hd hf) (fun s1 oc t h => h) k
theorem zv_callS (F : zv_F Δ Γ own nm cc nL ret R) (hlv : lv.length = nL) (hd : decode cc pc = .ok (.invokestatic index, 3)) (E : zv_E Γ.2.1 Δ d y bytes maxL ret1 As hp sz mc ms post) (hy : zv_y y bytes maxL ret1 n) (hi : Cond.static y ∈ zp_G) (hlk : Cond.methodLink own index y ∈ zp_G) (hn : As.length = n) (hroom : d + 1 ≤ R.frames ∧ 8 + (maxL + 11) + 39 * d ≤ R.locals) (hrest : (rest.map fun v => v.category).sum ≤ 8) (hf : ce + mc ≤ R.cells ∧ sl + ms ≤ R.slots) (k : ∀ (r : Option Value) (hp1 : zv_M) (sz1 : Nat), post r hp1 sz1 → zv_V Δ Γ Q (pc + 3) lv (r.toList ++ rest) hp1 sz1 (ce + mc) (sl + ms)) : zv_V Δ Γ Q pc lv (As.reverse ++ rest) hp sz ce sl := by
  obtain ⟨p, l, e, R0, s, m, args, below, meth, c⟩ := Γ
  obtain ⟨hx, hb0, hml, hown, hts, hT, hr, hlk0, hnm, hR⟩ := F
  have hR' : R0 = R := hR
  subst hR'
  exact zv_of_run (fun H locs ls hH hL => va_runS ⟨hx, hb0, hml, hown, hts⟩ E (⟨callB_of n hts (zv_gd hy.1 (ts := []) (fun w h => by cases h)) rfl rfl rfl (hts _ hy.2.1) (hts _ hlk) hy.2.2 hroom, hts _ hi⟩) ⟨zv_blind, fun U hU hW => ⟨rfl, by rw [hU]; exact hH, hT.warm hW⟩⟩ rfl hn (hL.1.trans hlv) rfl (lv_room hrest) hd hf) (fun s1 oc t h => h) k
theorem zv_callSN (F : zv_F Δ Γ own nm cc nL ret R) (hlv : lv.length = nL) (hd : decode cc pc = .ok (.invokestatic index, 3)) (E : zv_E Γ.2.1 Δ d y bytes maxL ret1 As hp sz mc ms post) (hy : zv_y y bytes maxL ret1 n) (hi : Cond.static y ∈ zp_G) {host : String} (hlk : Cond.methodLinkNest own index y host ∈ zp_N) (hn : As.length = n) (hroom : d + 1 ≤ R.frames ∧ 8 + (maxL + 11) + 39 * d ≤ R.locals) (hrest : (rest.map fun v => v.category).sum ≤ 8) (hf : ce + mc ≤ R.cells ∧ sl + ms ≤ R.slots) (k : ∀ (r : Option Value) (hp1 : zv_M) (sz1 : Nat), post r hp1 sz1 → zv_V Δ Γ Q (pc + 3) lv (r.toList ++ rest) hp1 sz1 (ce + mc) (sl + ms)) : zv_V Δ Γ Q pc lv (As.reverse ++ rest) hp sz ce sl := by
  obtain ⟨p, l, e, R0, s, m, args, below, meth, c⟩ := Γ
  obtain ⟨hx, hb0, hml, hown, hts, hT, hr, hlk0, hnm, hR⟩ := F
  have hR' : R0 = R := hR
  subst hR'
  exact zv_of_run (fun H locs ls hH hL => va_runSN ⟨hx, hb0, hml, hown, hts⟩ E (⟨va_cnB n hts (zv_gd hy.1 (ts := []) (fun w h => by cases h)) rfl rfl rfl (hT.2.1 _ hlk) (hts _ hy.2.1) hy.2.2 hroom, hts _ hi, trivial⟩) ⟨zv_blind, fun U hU hW => ⟨rfl, by rw [hU]; exact hH, hT.warm hW⟩⟩ rfl hn (hL.1.trans hlv) rfl (lv_room hrest) hd hf) (fun s1 oc t h => h) k
theorem zv_callI (F : zv_F Δ Γ own nm cc nL ret R) (hlv : lv.length = nL) (hd : decode cc pc = .ok (.invokespecial index, 3)) (E : zv_E Γ.2.1 Δ d y bytes maxL none (.ref b :: As) hp sz mc ms post) (hy : zv_y y bytes maxL none n) (hi : Cond.instanceMethod y ∈ zp_G) (hin : y.name = "<init>") (hlk : Cond.methodLink own index y ∈ zp_G) (hn : As.length = n) (hroom : d + 1 ≤ R.frames ∧ 8 + (maxL + 11) + 39 * d ≤ R.locals) (hrest : (rest.map fun v => v.category).sum ≤ 8) (hf : ce + mc ≤ R.cells ∧ sl + ms ≤ R.slots) (k : ∀ (r : Option Value) (hp1 : zv_M) (sz1 : Nat), post r hp1 sz1 → zv_V Δ Γ Q (pc + 3) lv (r.toList ++ rest) hp1 sz1 (ce + mc) (sl + ms)) : zv_V Δ Γ Q pc lv (As.reverse ++ .ref b :: rest) hp sz ce sl := by
  obtain ⟨p, l, e, R0, s, m, args, below, meth, c⟩ := Γ
  obtain ⟨hx, hb0, hml, hown, hts, hT, hr, hlk0, hnm, hR⟩ := F
  have hR' : R0 = R := hR
  subst hR'
  exact zv_of_run (fun H locs ls hH hL => va_runI ⟨hx, hb0, hml, hown, hts⟩ E (cwI n hts (zv_gd hy.1 (ts := []) (fun w h => by cases h)) rfl rfl rfl (hts _ hy.2.1) (hts _ hlk) (hts _ hi) hin hy.2.2 hroom) ⟨zv_blind, fun U hU hW => ⟨rfl, by rw [hU]; exact hH, hT.warm hW⟩⟩ rfl hn (hL.1.trans hlv) rfl (lv_room hrest) hd hf) (fun s1 oc t h => h) k
theorem zv_callIN (F : zv_F Δ Γ own nm cc nL ret R) (hlv : lv.length = nL) (hd : decode cc pc = .ok (.invokespecial index, 3)) (E : zv_E Γ.2.1 Δ d y bytes maxL none (.ref b :: As) hp sz mc ms post) (hy : zv_y y bytes maxL none n) (hi : Cond.instanceMethod y ∈ zp_G) (hin : y.name = "<init>") {host : String} (hlk : Cond.methodLinkNest own index y host ∈ zp_N) (hn : As.length = n) (hroom : d + 1 ≤ R.frames ∧ 8 + (maxL + 11) + 39 * d ≤ R.locals) (hrest : (rest.map fun v => v.category).sum ≤ 8) (hf : ce + mc ≤ R.cells ∧ sl + ms ≤ R.slots) (k : ∀ (r : Option Value) (hp1 : zv_M) (sz1 : Nat), post r hp1 sz1 → zv_V Δ Γ Q (pc + 3) lv (r.toList ++ rest) hp1 sz1 (ce + mc) (sl + ms)) : zv_V Δ Γ Q pc lv (As.reverse ++ .ref b :: rest) hp sz ce sl := by
  obtain ⟨p, l, e, R0, s, m, args, below, meth, c⟩ := Γ
  obtain ⟨hx, hb0, hml, hown, hts, hT, hr, hlk0, hnm, hR⟩ := F
  have hR' : R0 = R := hR
  subst hR'
  exact zv_of_run (fun H locs ls hH hL => va_runIN ⟨hx, hb0, hml, hown, hts⟩ E (⟨va_cnB n hts (zv_gd hy.1 (ts := []) (fun w h => by cases h)) rfl rfl rfl (hT.2.1 _ hlk) (hts _ hy.2.1) hy.2.2 hroom, hin, hts _ hi⟩) ⟨zv_blind, fun U hU hW => ⟨rfl, by rw [hU]; exact hH, hT.warm hW⟩⟩ rfl hn (hL.1.trans hlv) rfl (lv_room hrest) hd hf) (fun s1 oc t h => h) k
theorem zv_callF (F : zv_F Δ Γ own nm cc nL ret R) (hlv : lv.length = nL) {count : Nat} (hd : decode cc pc = .ok (.invokeinterface index count, 5)) (E : zv_E Γ.2.1 Δ d y bytes maxL ret1 (.ref b :: As) hp sz mc ms post) (hy : zv_y y bytes maxL ret1 n) {C : String} {x : MethodName} (hF : (C, x, y) ∈ zp_F) (hi : Cond.instanceMethod y ∈ zp_G) (hse : Cond.selects C x y ∈ zp_G) (hlk : Cond.methodLink own index x ∈ zp_G) (hxd : x.cls ≠ "java/lang/invoke/MethodHandle" ∧ x.cls ≠ "java/lang/invoke/VarHandle" ∧ (parseMethodDescriptor x.desc).map (fun d => d.parameters.length) = some n) {T : u_T} {N ci : Nat} {fs : List Value} (ho : hp b = some (.inr (ci, fs))) (hC : zp_classes[ci]? = some (C, T, N)) (hn : As.length = n) (hroom : d + 1 ≤ R.frames ∧ 8 + (maxL + 11) + 39 * d ≤ R.locals) (hrest : (rest.map fun v => v.category).sum ≤ 8) (hf : ce + mc ≤ R.cells ∧ sl + ms ≤ R.slots) (k : ∀ (r : Option Value) (hp1 : zv_M) (sz1 : Nat), post r hp1 sz1 → zv_V Δ Γ Q (pc + 5) lv (r.toList ++ rest) hp1 sz1 (ce + mc) (sl + ms)) : zv_V Δ Γ Q pc lv (As.reverse ++ .ref b :: rest) hp sz ce sl := by
  obtain ⟨p, l, e, R0, s, m, args, below, meth, c⟩ := Γ
  obtain ⟨hx, hb0, hml, hown, hts, hT, hr, hlk0, hnm, hR⟩ := F
  have hR' : R0 = R := hR
  subst hR'
  exact zv_of_run5 (fun H locs ls hH hL => va_runF (hT.1.1 _ _ hC).2 ⟨hx, hb0, hml, hown, hts⟩ E (va_cwF n hts (zv_gd hy.1 (ts := [.methodLink own index x, .selects C x y, .instanceMethod y, .initialized y.cls]) (by simp only [List.mem_cons, List.not_mem_nil, or_false]; rintro w (rfl | rfl | rfl | rfl) <;> first | assumption | exact hy.2.1)) rfl rfl rfl (hT.2.2.1 _ hF) hxd hroom) ⟨zv_blind, va_recv (q0 := 0) hT.1 (hH.one ho) hC rfl, fun U hU hW => ⟨rfl, by rw [hU]; exact hH, hT.warm hW⟩⟩ rfl hn (hL.1.trans hlv) rfl (lv_room hrest) hd hf) (fun s1 oc t h => h) k
theorem zv_obj (F : zv_F Δ Γ own nm cc nL ret R) (hlv : lv.length = nL) {a : Nat} (hd : decode cc pc = .ok (.invokespecial index, 3)) (h1 : Cond.methodLink own index Lib.objectInit ∈ zp_G) (h2 : Cond.instanceMethod Lib.objectInit ∈ zp_G) (h3 : Cond.code Lib.objectInit ⟨#[0xb1]⟩ 1 none ∈ zp_G) (hroom : 1 ≤ R.frames ∧ (rest.map fun v => v.category).sum + 12 ≤ R.locals) (k : zv_V Δ Γ Q (pc + 3) lv rest hp sz ce sl) : zv_V Δ Γ Q pc lv (.ref a :: rest) hp sz ce sl := by
  obtain ⟨p, l, e, R0, s, m, args, below, meth, c⟩ := Γ
  obtain ⟨hx, hb0, hml, hown, hts, hT, hr, hlk, hnm, hR⟩ := F
  have hR' : R0 = R := hR
  subst hR'
  intro H locs ls hH hlo hL
  refine W.objInit hx hb0 hown (hts _ h1) (hts _ h2) (hts _ h3) rfl (by show ls.size = _; rw [hml, ← hlv]; exact hL.1) rfl hd hroom.1 (by show 2 * 0 + _ + 12 ≤ R0.locals; have h9 := hroom.2; omega) ?_
  exact k H locs ls hH hlo hL
end ZCALL
