-- the classes and array classes as the tables have them, at the law's entry. Own work.
theorem za_all {s : State} {A : Array Value} (hG : ∀ w ∈ zp_G, w.before A s = true) (hts : ∀ w ∈ tables_1, w.before A s = true) : ∀ (k : Nat) (ty : FieldType), zp_tys[k]? = some ty → ∃ cA : ClassId, ArrOfT s cA ty ∧ va_RA s cA ty
  | 0, ty, h => by
    cases h
    obtain ⟨c, k, comp, h1, h2, h3⟩ := Cond.arrayClass_spec (hG _ ka_int)
    exact ⟨c, fun n z => ⟨fun k h => (by cases h), k, h2, comp, h3⟩, h1⟩
  | 1, ty, h => by
    cases h
    obtain ⟨c, k, comp, h1, h2, h3⟩ := Cond.arrayClass_spec (hG _ ka_long)
    exact ⟨c, fun n z => ⟨fun k h => (by cases h), k, h2, comp, h3⟩, h1⟩
  | 2, ty, h => by
    cases h
    obtain ⟨c, k, comp, h1, h2, h3⟩ := Cond.arrayClass_spec (hG _ ka_boolean)
    exact ⟨c, fun n z => ⟨fun k h => (by cases h), k, h2, comp, h3⟩, h1⟩
  | 3, ty, h => by
    cases h
    obtain ⟨comp, c, k, h1, h2, h3, h4, h5⟩ := Cond.arrayOver_spec (hts _ az_0)
    exact ⟨c, fun n z => ⟨fun k h => (by cases h), k, h3, comp, h4⟩, k, comp, h3, h4, h1, h5⟩
  | k + 4, ty, h => by simp [zp_tys] at h
theorem zv_start {s : State} {A : Array Value} (hts : ∀ w ∈ lw_tbl, w.before A s = true) : ∃ (D : va_G) (cA : Nat → ClassId), zv_T (s.heap, D, cA) s := by
  have hG : ∀ w ∈ zp_G, w.before A s = true := fun w hw => hts w (List.mem_filter.mp hw).1
  have htb : ∀ w ∈ tables_1, w.before A s = true := fun w hw => hts w (List.mem_append_right _ hw)
  have hc : ∀ c : Nat, ∃ z : ClassId × (Nat → Nat), ∀ q : vw_C, zp_classes[c]? = some q → u_Kn s q.1 q.2.1 q.2.2 z.1 z.2 := fun c => by
    cases h : zp_classes[c]? with
    | none => exact ⟨(0, fun _ => 0), fun q hq => by cases hq⟩
    | some q =>
      obtain ⟨z, hz⟩ := zc_all hG c q h
      exact ⟨z, fun q2 hq => by cases hq; exact hz⟩
  have ha : ∀ k : Nat, ∃ cA : ClassId, ∀ ty : FieldType, zp_tys[k]? = some ty → ArrOfT s cA ty ∧ va_RA s cA ty := fun k => by
    cases h : zp_tys[k]? with
    | none => exact ⟨0, fun q hq => by cases hq⟩
    | some ty =>
      obtain ⟨z, hz⟩ := za_all hG htb k ty h
      exact ⟨z, fun q2 hq => by cases hq; exact hz⟩
  obtain ⟨f, hf⟩ := Classical.axiomOfChoice hc
  obtain ⟨f2, hf2⟩ := Classical.axiomOfChoice ha
  refine ⟨(fun c => (f c).1, fun c => (f c).2), f2, ⟨fun c q hq => hf c q hq, fun k q hk => ?_⟩, fun w hw => va_Nw.of (zp_Non w hw) (htb w (zp_Nin w hw)), zp_Fin htb, fun C hC => ?_⟩
  · unfold zv_tys at hk
    rw [List.getElem?_mapIdx] at hk
    cases h : zp_tys[k]? with
    | none => rw [h] at hk; cases hk
    | some ty =>
      rw [h] at hk
      cases hk
      exact hf2 k ty h
  · have e : C = "LetterAlgebra$Automaton" := by
      unfold zp_A at hC
      exact List.mem_singleton.mp hC
    subst e
    exact va_AO.of (htb _ az_0)
