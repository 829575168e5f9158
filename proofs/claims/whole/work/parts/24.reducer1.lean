theorem Ar_fill_ok {l : Launch} {Δ : zv_D} {hp : zv_M} {sz : Nat} {a n v : Nat} {g : Nat → Nat} (f1 : hp a = some (zn_I Δ n g)) (hn : n < 2147483648) : zv_E l Δ 0 y_Ar_fill b_Ar_fill 4 (none) [.ref a, .int (nI v)] hp sz 0 0 (fun r hp1 sz1 => ∃ g1 : Nat → Nat, r = none ∧ sz1 = sz ∧ hp1 a = some (zn_I Δ n g1) ∧ (∀ j, j < n → g1 j = v) ∧ ∀ b, b ≠ a → hp1 b = hp b) := by
  refine zv_E.intro (lv0 := [some (.ref a), some (.int (nI v)), none, none]) rfl (Nat.le_of_ble_eq_true rfl) rfl ?_
  intro Γ hl F
  clear hl
  have loop : ∀ (m i : Nat) (h' : zv_M) (g1 : Nat → Nat), m = n - i → i ≤ n → h' a = some (zn_I Δ n g1) → (∀ j, j < i → g1 j = v) → (∀ b, b ≠ a → h' b = hp b) → zv_V Δ Γ (zv_QQ Δ Γ 0 0 (fun r hp1 sz1 => ∃ g1 : Nat → Nat, r = none ∧ sz1 = sz ∧ hp1 a = some (zn_I Δ n g1) ∧ (∀ j, j < n → g1 j = v) ∧ ∀ b, b ≠ a → hp1 b = hp b)) 5 [some (.ref a), some (.int (nI v)), some (.int (nI i)), some (.int (nI n))] [] h' sz 0 0 := by
    intro m
    induction m using Nat.strongRecOn with
    | ind m ih =>
      intro i h' g1 hm hi f1 hg fr
      refine zv_iload_n F d_Ar_fill_5 rfl ?_
      refine zv_iload_n F d_Ar_fill_6 rfl ?_
      refine zn_icmp_ge (tgt := 20) F d_Ar_fill_7 rfl (by omega) (by omega) (fun h7 => ?_) (fun h7 => ?_)
      · exact zv_vret F d_Ar_fill_20 (Nat.le_of_ble_eq_true rfl) (Nat.le_of_ble_eq_true rfl) ⟨g1, rfl, rfl, f1, fun j hj => hg j (by omega), fr⟩
      · refine zv_aload_n F d_Ar_fill_10 rfl ?_
        refine zv_iload_n F d_Ar_fill_11 rfl ?_
        refine zv_iload_n F d_Ar_fill_12 rfl ?_
        refine zn_iast F d_Ar_fill_13 (by assumption) (by omega) (by omega) (fun hp13 e13 => ?_)
        replace f1 := zv_eq e13
        replace fr := fun b hb => (zv_ne (b := b) e13 (by omega)).trans (fr b hb)
        refine zn_iinc F d_Ar_fill_14 rfl ?_
        simp only [zv_s1, zv_s2, zv_kill, List.set_cons_zero, List.set_cons_succ, List.getElem?_cons_zero, List.getElem?_cons_succ]
        refine zv_goto (tgt := 5) F d_Ar_fill_17 rfl ?_
        exact zv_weak (by repeat' (first | exact True.intro | refine And.intro rfl ?_)) (ih (n - (i + 1)) (by omega) (i + 1) _ _ rfl (by omega) f1 (fun j hj => by by_cases e : j = i; simp [va_up, e]; simp only [va_up, e, if_false]; exact hg j (by omega)) fr)
  refine zn_iconst (x := 0) F d_Ar_fill_0 (by decide) ?_
  refine zv_istore_n F d_Ar_fill_1 (Nat.le_of_ble_eq_true rfl) ?_
  simp only [zv_s1, zv_s2, zv_kill, List.set_cons_zero, List.set_cons_succ, List.getElem?_cons_zero, List.getElem?_cons_succ]
  refine zv_aload_n F d_Ar_fill_2 rfl ?_
  refine zn_alen F d_Ar_fill_3 f1 ?_
  refine zv_istore_n F d_Ar_fill_4 (Nat.le_of_ble_eq_true rfl) ?_
  simp only [zv_s1, zv_s2, zv_kill, List.set_cons_zero, List.set_cons_succ, List.getElem?_cons_zero, List.getElem?_cons_succ]
  exact zv_weak (by repeat' (first | exact True.intro | refine And.intro rfl ?_)) (loop _ 0 _ _ rfl (Nat.zero_le _) f1 (fun j hj => by omega) (fun b _ => rfl))
def re_obj (o N pA pB : Nat) : va_E := .inr (7, [.ref (o + 1), .ref (o + 2), .ref (o + 3), .int (nI N), .ref pA, .ref pB, .ref (o + 6)])
def re_inv (N : Nat) (nc cd : Nat → Nat) : Prop := N ≤ 384 ∧ (∀ x, x < 384 → nc x = 4294967295 ∨ (nc x < N ∧ cd (nc x) = x)) ∧ ∀ s, s < N → cd s < 384 ∧ nc (cd s) = s
theorem re_inv_new {N x : Nat} {nc cd : Nat → Nat} (h : re_inv N nc cd) (hx : x < 384) (hn : nc x = 4294967295) : N < 384 ∧ re_inv (N + 1) (va_up nc x N) (va_up cd N x) := by
  obtain ⟨h1, h2, h3⟩ := h
  have ne : ∀ s, s < N → cd s ≠ x := fun s hs e => by
    have := (h3 s hs).2
    rw [e, hn] at this
    omega
  have hlt : N < 384 := le_pig 384 (N + 1) (va_up cd N x) (fun i hi => by
      by_cases e : i = N
      · simp only [va_up, e, if_true]; exact hx
      · simp only [va_up, e, if_false]; exact (h3 i (by omega)).1) (fun i j hi hj e => by
      by_cases ei : i = N
      · by_cases ej : j = N
        · omega
        · simp only [va_up, ei, ej, if_true, if_false] at e
          exact absurd e.symm (ne j (by omega))
      · by_cases ej : j = N
        · simp only [va_up, ei, ej, if_true, if_false] at e
          exact absurd e (ne i (by omega))
        · simp only [va_up, ei, ej, if_false] at e
          have q := (h3 i (by omega)).2
          rw [e, (h3 j (by omega)).2] at q
          exact q.symm)
  refine ⟨hlt, by omega, fun y hy => ?_, fun s hs => ?_⟩
  · by_cases e : y = x
    · right
      simp [va_up, e]
    · simp only [va_up, e, if_false]
      rcases h2 y hy with q | q
      · exact Or.inl q
      · right
        have e2 : nc y ≠ N := by omega
        simp only [e2, if_false]
        exact ⟨by omega, q.2⟩
  · by_cases e : s = N
    · simp [va_up, e]
      exact hx
    · have q := h3 s (by omega)
      have e2 := ne s (by omega)
      simp only [va_up, e, e2, if_false]
      exact q
theorem Re_numberFor_ok {l : Launch} {Δ : zv_D} {hp : zv_M} {sz : Nat} {o N pA pB x : Nat} {nc cd : Nat → Nat} (f0 : hp o = some (re_obj o N pA pB)) (f1 : hp (o + 1) = some (zn_I Δ 384 nc)) (f2 : hp (o + 2) = some (zn_I Δ 384 cd)) (hi : re_inv N nc cd) (hx : x < 384) : zv_E l Δ 0 y_Re_numberFor b_Re_numberFor 2 ((some (FieldType.int))) [.ref o, .int (nI x)] hp sz 0 0 (fun r hp1 sz1 => ∃ (v N1 : Nat) (nc1 cd1 : Nat → Nat), r = some (.int (nI v)) ∧ sz1 = sz ∧ hp1 o = some (re_obj o N1 pA pB) ∧ hp1 (o + 1) = some (zn_I Δ 384 nc1) ∧ hp1 (o + 2) = some (zn_I Δ 384 cd1) ∧ re_inv N1 nc1 cd1 ∧ (∀ s, s < N → cd1 s = cd s) ∧ cd1 v = x ∧ ((v < N ∧ N1 = N) ∨ (v = N ∧ N1 = N + 1)) ∧ ∀ b, b ≠ o ∧ b ≠ o + 1 ∧ b ≠ o + 2 → hp1 b = hp b) := by
  refine zv_E.intro (lv0 := [some (.ref o), some (.int (nI x))]) rfl (Nat.le_of_ble_eq_true rfl) rfl ?_
  intro Γ hl F
  clear hl
  have hN := hi.1
  have hq := hi.2.1 x hx
  have fr : ∀ b, b ≠ o ∧ b ≠ o + 1 ∧ b ≠ o + 2 → hp b = hp b := fun b _ => rfl
  refine zv_aload_n F d_Re_numberFor_0 rfl ?_
  refine zv_get F d_Re_numberFor_1 (by assumption) k_Re 0 (Nat.le_of_ble_eq_true rfl) ln_Re_9 rfl (by rfl) ?_
  refine zv_iload_n F d_Re_numberFor_4 rfl ?_
  refine zn_iald F d_Re_numberFor_5 (by assumption) (by omega) (by omega) ?_
  refine zn_iconst (x := 4294967295) F d_Re_numberFor_6 (by decide) ?_
  refine zn_icmp_ne (tgt := 40) F d_Re_numberFor_7 rfl (by omega) (by omega) (fun h7 => ?_) (fun h7 => ?_)
  · have hold : nc x < N ∧ cd (nc x) = x := by omega
    refine zv_aload_n F d_Re_numberFor_40 rfl ?_
    refine zv_get F d_Re_numberFor_41 (by assumption) k_Re 0 (Nat.le_of_ble_eq_true rfl) ln_Re_9 rfl (by rfl) ?_
    refine zv_iload_n F d_Re_numberFor_44 rfl ?_
    refine zn_iald F d_Re_numberFor_45 (by assumption) (by omega) (by omega) ?_
    exact zv_iret F d_Re_numberFor_46 (Nat.le_of_ble_eq_true rfl) (Nat.le_of_ble_eq_true rfl) (by first | exact ⟨nc x, N, nc, cd, rfl, rfl, f0, f1, f2, hi, fun s _ => rfl, hold.2, Or.inl ⟨hold.1, rfl⟩, fr⟩ | exact ⟨N, N + 1, va_up nc x N, va_up cd N x, by simp [va_up], rfl, f0, f1, f2, hnew, fun s hs => by simp only [va_up]; rw [if_neg (by omega)], by simp [va_up], Or.inr ⟨rfl, rfl⟩, fr⟩)
  · obtain ⟨hN4, hnew⟩ := re_inv_new hi hx h7
    refine zv_aload_n F d_Re_numberFor_10 rfl ?_
    refine zv_get F d_Re_numberFor_11 (by assumption) k_Re 0 (Nat.le_of_ble_eq_true rfl) ln_Re_9 rfl (by rfl) ?_
    refine zv_iload_n F d_Re_numberFor_14 rfl ?_
    refine zv_aload_n F d_Re_numberFor_15 rfl ?_
    refine zv_get F d_Re_numberFor_16 (by assumption) k_Re 3 (Nat.le_of_ble_eq_true rfl) ln_Re_51 rfl (by rfl) ?_
    refine zn_iast F d_Re_numberFor_19 (by assumption) (by omega) (by omega) (fun hp19 e19 => ?_)
    replace f0 := (zv_ne e19 (by omega)).trans f0
    replace f1 := zv_eq e19
    replace f2 := (zv_ne e19 (by omega)).trans f2
    replace fr := fun b hb => (zv_ne (b := b) e19 (by omega)).trans (fr b hb)
    refine zv_aload_n F d_Re_numberFor_20 rfl ?_
    refine zv_get F d_Re_numberFor_21 (by assumption) k_Re 1 (Nat.le_of_ble_eq_true rfl) ln_Re_15 rfl (by rfl) ?_
    refine zv_aload_n F d_Re_numberFor_24 rfl ?_
    refine zv_get F d_Re_numberFor_25 (by assumption) k_Re 3 (Nat.le_of_ble_eq_true rfl) ln_Re_51 rfl (by rfl) ?_
    refine zv_iload_n F d_Re_numberFor_28 rfl ?_
    refine zn_iast F d_Re_numberFor_29 (by assumption) (by omega) (by omega) (fun hp29 e29 => ?_)
    replace f0 := (zv_ne e29 (by omega)).trans f0
    replace f1 := (zv_ne e29 (by omega)).trans f1
    replace f2 := zv_eq e29
    replace fr := fun b hb => (zv_ne (b := b) e29 (by omega)).trans (fr b hb)
    refine zv_aload_n F d_Re_numberFor_30 rfl ?_
    refine zv_dup F d_Re_numberFor_31 rfl ?_
    refine zv_get F d_Re_numberFor_32 (by assumption) k_Re 3 (Nat.le_of_ble_eq_true rfl) ln_Re_51 rfl (by rfl) ?_
    refine zn_iconst (x := 1) F d_Re_numberFor_35 (by decide) ?_
    refine zn_iadd F d_Re_numberFor_36 ?_
    refine zv_put F d_Re_numberFor_37 (by assumption) k_Re 3 (Nat.le_of_ble_eq_true rfl) ln_Re_51 rfl rfl rfl (by rfl) (by rfl) (Nat.le_of_ble_eq_true rfl) (fun hp37 e37 => ?_)
    replace f0 := zv_eq e37
    replace f1 := (zv_ne e37 (by omega)).trans f1
    replace f2 := (zv_ne e37 (by omega)).trans f2
    replace fr := fun b hb => (zv_ne (b := b) e37 (by omega)).trans (fr b hb)
    refine zv_aload_n F d_Re_numberFor_40 rfl ?_
    refine zv_get F d_Re_numberFor_41 (by assumption) k_Re 0 (Nat.le_of_ble_eq_true rfl) ln_Re_9 rfl (by rfl) ?_
    refine zv_iload_n F d_Re_numberFor_44 rfl ?_
    refine zn_iald F d_Re_numberFor_45 (by assumption) (by omega) (by omega) ?_
    exact zv_iret F d_Re_numberFor_46 (Nat.le_of_ble_eq_true rfl) (Nat.le_of_ble_eq_true rfl) (by first | exact ⟨nc x, N, nc, cd, rfl, rfl, f0, f1, f2, hi, fun s _ => rfl, hold.2, Or.inl ⟨hold.1, rfl⟩, fr⟩ | exact ⟨N, N + 1, va_up nc x N, va_up cd N x, by simp [va_up], rfl, f0, f1, f2, hnew, fun s hs => by simp only [va_up]; rw [if_neg (by omega)], by simp [va_up], Or.inr ⟨rfl, rfl⟩, fr⟩)
def re_ex (Δ : zv_D) (hp0 hp : zv_M) (o pA pB : Nat) (δ : Nat → Nat → Nat) (s0 : Nat) (Bd : Nat → Prop) (j N : Nat) (nc cd tg : Nat → Nat) : Prop :=
  hp o = some (re_obj o N pA pB) ∧ hp (o + 1) = some (zn_I Δ 384 nc) ∧ hp (o + 2) = some (zn_I Δ 384 cd) ∧ hp (o + 3) = some (zn_I Δ 768 tg) ∧ (∀ b, b ≠ o ∧ b ≠ o + 1 ∧ b ≠ o + 2 ∧ b ≠ o + 3 → hp b = hp0 b) ∧
  re_inv N nc cd ∧ bf_inv N j tg ∧ cd 0 = s0 ∧ (∀ s, s < N → Bd (cd s)) ∧ ∀ i, i < j → tg i < N ∧ cd (tg i) = δ (cd (i / 2)) (i % 2)
/-- one slot more -/
theorem re_ex_step {Δ : zv_D} {hp0 hp hp1 hp2 : zv_M} {o pA pB s0 j N v N1 : Nat} {δ : Nat → Nat → Nat} {Bd : Nat → Prop} {nc cd tg nc1 cd1 : Nat → Nat} (h : re_ex Δ hp0 hp o pA pB δ s0 Bd j N nc cd tg) (hj : j < 2 * N)
    (q : hp1 o = some (re_obj o N1 pA pB) ∧ hp1 (o + 1) = some (zn_I Δ 384 nc1) ∧ hp1 (o + 2) = some (zn_I Δ 384 cd1) ∧ re_inv N1 nc1 cd1 ∧ (∀ s, s < N → cd1 s = cd s) ∧ cd1 v = δ (cd (j / 2)) (j % 2) ∧ ((v < N ∧ N1 = N) ∨ (v = N ∧ N1 = N + 1)) ∧ ∀ b, b ≠ o ∧ b ≠ o + 1 ∧ b ≠ o + 2 → hp1 b = hp b) (hB : Bd (δ (cd (j / 2)) (j % 2)))
    (e : hp2 = va_up hp1 (o + 3) (some (zn_I Δ 768 (va_up tg j v)))) : re_ex Δ hp0 hp2 o pA pB δ s0 Bd (j + 1) N1 nc1 cd1 (va_up tg j v) := by
  obtain ⟨f0, f1, f2, f3, fr, hi, hb, h0, hBd, ht⟩ := h
  obtain ⟨q0, q1, q2, qi, qc, qv, qn, qf⟩ := q
  have N0 : 0 < N := by have := hb.1; omega
  refine ⟨(zv_ne e (by omega)).trans q0, (zv_ne e (by omega)).trans q1, (zv_ne e (by omega)).trans q2, zv_eq e, fun b hb2 => (zv_ne e (by omega)).trans ((qf b ⟨hb2.1, hb2.2.1, hb2.2.2.1⟩).trans (fr b hb2)), qi, bf_inv_step hb hj (fun i hi2 => by simp only [va_up]; rw [if_neg (by omega)]) (by simp only [va_up, if_true]) qn, (qc 0 N0).trans h0, fun s hs => ?_, fun i hi2 => ?_⟩
  · by_cases c : s < N
    · rw [qc s c]; exact hBd s c
    · have : s = v := by omega
      rw [this, qv]
      exact hB
  · by_cases c : i = j
    · subst c
      simp only [va_up, if_true]
      refine ⟨by omega, ?_⟩
      rw [qv, qc (i / 2) (by omega)]
    · simp only [va_up, c, if_false]
      have z := ht i (by omega)
      refine ⟨by omega, ?_⟩
      rw [qc _ z.1, qc (i / 2) (by omega)]
      exact z.2
theorem Re_explore_ok {l : Launch} {Δ : zv_D} {hp : zv_M} {sz : Nat} {o b N pA pB s0 : Nat} {S : Nat → Prop} {δ : Nat → Nat → Nat} {ac : Nat → Bool} {Bd : Nat → Prop} {nc cd tg : Nat → Nat} (f0 : hp o = some (re_obj o N pA pB)) (f1 : hp (o + 1) = some (zn_I Δ 384 nc)) (f2 : hp (o + 2) = some (zn_I Δ 384 cd)) (f3 : hp (o + 3) = some (zn_I Δ 768 tg)) (hM : mc_M Δ hp b S δ ac s0 Bd) (hS : ∀ q, S q → q < o ∨ o + 7 ≤ q) : zv_E l Δ 3 y_Re_explore b_Re_explore 4 (none) [.ref o, .ref b] hp sz 0 0 (fun r hp1 sz1 => ∃ (N1 : Nat) (nc1 cd1 tg1 : Nat → Nat), r = none ∧ sz1 = sz ∧ re_ex Δ hp hp1 o pA pB δ s0 Bd (2 * N1) N1 nc1 cd1 tg1) := by
  refine zv_E.intro (lv0 := [some (.ref o), some (.ref b), none, none]) rfl (Nat.le_of_ble_eq_true rfl) rfl ?_
  intro Γ hl F
  clear hl
  have outer : ∀ (m s N : Nat) (h' : zv_M) (nc cd tg : Nat → Nat), m = 384 - s → s ≤ N → re_ex Δ hp h' o pA pB δ s0 Bd (2 * s) N nc cd tg → zv_V Δ Γ (zv_QQ Δ Γ 0 0 (fun r hp1 sz1 => ∃ (N1 : Nat) (nc1 cd1 tg1 : Nat → Nat), r = none ∧ sz1 = sz ∧ re_ex Δ hp hp1 o pA pB δ s0 Bd (2 * N1) N1 nc1 cd1 tg1)) 26 [some (.ref o), some (.ref b), some (.int (nI s)), none] [] h' sz 0 0 := by
    intro m
    induction m using Nat.strongRecOn with
    | ind m ih =>
      intro s N h' nc cd tg hm hs X
      have inner : ∀ (m2 c N : Nat) (h' : zv_M) (nc cd tg : Nat → Nat), m2 = 2 - c → c ≤ 2 → s < N → re_ex Δ hp h' o pA pB δ s0 Bd (2 * s + c) N nc cd tg → zv_V Δ Γ (zv_QQ Δ Γ 0 0 (fun r hp1 sz1 => ∃ (N1 : Nat) (nc1 cd1 tg1 : Nat → Nat), r = none ∧ sz1 = sz ∧ re_ex Δ hp hp1 o pA pB δ s0 Bd (2 * N1) N1 nc1 cd1 tg1)) 43 [some (.ref o), some (.ref b), some (.int (nI s)), some (.int (nI c))] [] h' sz 0 0 := by
        intro m2
        induction m2 using Nat.strongRecOn with
        | ind m2 ih2 =>
          intro c N h' nc cd tg hm2 hc hsN X
          have X0 := X
          obtain ⟨f0, f1, f2, f3, fr, hi, hb, h0, hBd, ht⟩ := X
          have hN := hi.1
          have hBs := hBd s hsN
          have hj2 : (2 * s + c) / 2 = s ∨ c = 2 := by omega
          refine zv_iload_n F d_Re_explore_43 rfl ?_
          refine zn_iconst (x := 2) F d_Re_explore_44 (by decide) ?_
          refine zn_icmp_ge (tgt := 81) F d_Re_explore_45 rfl (by omega) (by omega) (fun h45 => ?_) (fun h45 => ?_)
          · have ec : c = 2 := by omega
            subst ec
            refine zn_iinc F d_Re_explore_81 rfl ?_
            simp only [zv_s1, zv_s2, zv_kill, List.set_cons_zero, List.set_cons_succ, List.getElem?_cons_zero, List.getElem?_cons_succ]
            refine zv_goto (tgt := 26) F d_Re_explore_84 rfl ?_
            exact zv_weak (by repeat' (first | exact True.intro | refine And.intro rfl ?_)) (ih (384 - (s + 1)) (by omega) (s + 1) N _ _ _ _ rfl (by omega) X0)
          · have ej : (2 * s + c) / 2 = s := by omega
            have em : (2 * s + c) % 2 = c := by omega
            have hBn := hM.1.2.2 (cd s) c hBs (by omega)
            refine zv_aload_n F d_Re_explore_48 rfl ?_
            refine zv_get F d_Re_explore_49 (by assumption) k_Re 2 (Nat.le_of_ble_eq_true rfl) ln_Re_18 rfl (by rfl) ?_
            refine zn_iconst (x := 2) F d_Re_explore_52 (by decide) ?_
            refine zv_iload_n F d_Re_explore_53 rfl ?_
            refine zn_imul F d_Re_explore_54 ?_
            refine zv_iload_n F d_Re_explore_55 rfl ?_
            refine zn_iadd F d_Re_explore_56 ?_
            refine zv_aload_n F d_Re_explore_57 rfl ?_
            refine zv_aload_n F d_Re_explore_58 rfl ?_
            refine zv_aload_n F d_Re_explore_59 rfl ?_
            refine zv_get F d_Re_explore_60 (by assumption) k_Re 1 (Nat.le_of_ble_eq_true rfl) ln_Re_15 rfl (by rfl) ?_
            refine zv_iload_n F d_Re_explore_63 rfl ?_
            refine zn_iald F d_Re_explore_64 (by assumption) (by omega) (by omega) ?_
            refine zv_iload_n F d_Re_explore_65 rfl ?_
            refine zv_callM F rfl d_Re_explore_66 ((hM.2 _ h' _ (fun q hq => fr q (by have := hS q hq; omega))).2.1 (cd s) c hBs (by omega)) ln_Re_64 (by decide) rfl rfl ⟨(Nat.le_of_ble_eq_true rfl), (Nat.le_of_ble_eq_true rfl)⟩ (Nat.le_of_ble_eq_true rfl) ⟨(Nat.le_of_ble_eq_true rfl), (Nat.le_of_ble_eq_true rfl)⟩ ?_
            refine zv_mV1 F rfl (by assumption) k_Re.1 d_Re_explore_71 (Re_numberFor_ok f0 f1 f2 hi (hM.1.2.1 _ hBn)) Y_Re_numberFor Yi_Re_numberFor Yv_Re_numberFor ln_Re_60 ⟨(Nat.le_of_ble_eq_true rfl), (Nat.le_of_ble_eq_true rfl)⟩ (Nat.le_of_ble_eq_true rfl) ⟨(Nat.le_of_ble_eq_true rfl), (Nat.le_of_ble_eq_true rfl)⟩ (fun r hp71 sz71 q71 => ?_)
            obtain ⟨v, N1, nc1, cd1, rfl, rfl, q⟩ := q71
            have f3' := (q.2.2.2.2.2.2.2 (o + 3) (by omega)).trans f3
            try simp only [Option.toList, List.cons_append, List.nil_append]
            refine zn_iast F d_Re_explore_74 f3' (by omega) (by omega) (fun hp74 e74 => ?_)
            refine zn_iinc F d_Re_explore_75 rfl ?_
            simp only [zv_s1, zv_s2, zv_kill, List.set_cons_zero, List.set_cons_succ, List.getElem?_cons_zero, List.getElem?_cons_succ]
            refine zv_goto (tgt := 43) F d_Re_explore_78 rfl ?_
            exact zv_weak (by repeat' (first | exact True.intro | refine And.intro rfl ?_)) (ih2 (2 - (c + 1)) (by omega) (c + 1) N1 _ _ _ _ rfl (by omega) (by omega) (re_ex_step (j := 2 * s + c) X0 (by omega) (by rw [ej, em]; exact q) (by rw [ej, em]; exact hBn) e74))
      have X0 := X
      obtain ⟨f0, f1, f2, f3, fr, hi, hb, h0, hBd, ht⟩ := X
      have hN := hi.1
      refine zv_iload_n F d_Re_explore_26 rfl ?_
      refine zv_aload_n F d_Re_explore_27 rfl ?_
      refine zv_get F d_Re_explore_28 (by assumption) k_Re 3 (Nat.le_of_ble_eq_true rfl) ln_Re_51 rfl (by rfl) ?_
      refine zn_icmp_ge (tgt := 87) F d_Re_explore_31 rfl (by omega) (by omega) (fun h31 => ?_) (fun h31 => ?_)
      · exact zv_vret F d_Re_explore_87 (Nat.le_of_ble_eq_true rfl) (Nat.le_of_ble_eq_true rfl) ⟨N, nc, cd, tg, rfl, rfl, by have e : s = N := (by omega); rw [e] at X0; exact X0⟩
      · refine zv_iload_n F d_Re_explore_34 rfl ?_
        refine zn_sipush (x := 384) F d_Re_explore_35 (by decide) ?_
        refine zn_icmp_ge (tgt := 87) F d_Re_explore_38 rfl (by omega) (by omega) (fun h38 => ?_) (fun h38 => ?_)
        · exact zv_vret F d_Re_explore_87 (Nat.le_of_ble_eq_true rfl) (Nat.le_of_ble_eq_true rfl) ⟨N, nc, cd, tg, rfl, rfl, by have e : s = N := (by omega); rw [e] at X0; exact X0⟩
        · refine zn_iconst (x := 0) F d_Re_explore_41 (by decide) ?_
          refine zv_istore_n F d_Re_explore_42 (Nat.le_of_ble_eq_true rfl) ?_
          simp only [zv_s1, zv_s2, zv_kill, List.set_cons_zero, List.set_cons_succ, List.getElem?_cons_zero, List.getElem?_cons_succ]
          exact zv_weak (by repeat' (first | exact True.intro | refine And.intro rfl ?_)) (inner _ 0 N _ _ _ _ rfl (by omega) (by omega) X0)
  refine zv_aload_n F d_Re_explore_0 rfl ?_
  refine zv_get F d_Re_explore_1 (by assumption) k_Re 0 (Nat.le_of_ble_eq_true rfl) ln_Re_9 rfl (by rfl) ?_
  refine zn_iconst (x := 4294967295) F d_Re_explore_4 (by decide) ?_
  refine zv_mS2 F rfl d_Re_explore_5 (Ar_fill_ok f1 (by decide)) Y_Ar_fill Ys_Ar_fill ln_Re_45 ⟨(Nat.le_of_ble_eq_true rfl), (Nat.le_of_ble_eq_true rfl)⟩ (Nat.le_of_ble_eq_true rfl) ⟨(Nat.le_of_ble_eq_true rfl), (Nat.le_of_ble_eq_true rfl)⟩ (fun r hp5 sz5 q5 => ?_)
  obtain ⟨nc1, rfl, rfl, f1', hnc, fr⟩ := q5
  replace f1 := f1'
  replace f0 := (fr o (by omega)).trans f0
  replace f2 := (fr (o + 2) (by omega)).trans f2
  replace f3 := (fr (o + 3) (by omega)).trans f3
  try simp only [Option.toList, List.cons_append, List.nil_append]
  refine zv_aload_n F d_Re_explore_8 rfl ?_
  refine zn_iconst (x := 0) F d_Re_explore_9 (by decide) ?_
  refine zv_put F d_Re_explore_10 (by assumption) k_Re 3 (Nat.le_of_ble_eq_true rfl) ln_Re_51 rfl rfl rfl (by rfl) (by rfl) (Nat.le_of_ble_eq_true rfl) (fun hp10 e10 => ?_)
  replace f0 := zv_eq e10
  replace f1 := (zv_ne e10 (by omega)).trans f1
  replace f2 := (zv_ne e10 (by omega)).trans f2
  replace f3 := (zv_ne e10 (by omega)).trans f3
  refine zv_aload_n F d_Re_explore_13 rfl ?_
  refine zv_aload_n F d_Re_explore_14 rfl ?_
  refine zv_callM F rfl d_Re_explore_15 ((hM.2 _ hp10 _ (fun q hq => by have := hS q hq; exact (zv_ne e10 (by omega)).trans (fr q (by omega)))).1) ln_Re_55 (by decide) rfl rfl ⟨(Nat.le_of_ble_eq_true rfl), (Nat.le_of_ble_eq_true rfl)⟩ (Nat.le_of_ble_eq_true rfl) ⟨(Nat.le_of_ble_eq_true rfl), (Nat.le_of_ble_eq_true rfl)⟩ ?_
  refine zv_mV1 F rfl (by assumption) k_Re.1 d_Re_explore_20 (Re_numberFor_ok f0 f1 f2 (⟨by decide, fun x hx => Or.inl (hnc x hx), fun s hs => by omega⟩ : re_inv 0 nc1 cd) (hM.1.2.1 _ hM.1.1)) Y_Re_numberFor Yi_Re_numberFor Yv_Re_numberFor ln_Re_60 ⟨(Nat.le_of_ble_eq_true rfl), (Nat.le_of_ble_eq_true rfl)⟩ (Nat.le_of_ble_eq_true rfl) ⟨(Nat.le_of_ble_eq_true rfl), (Nat.le_of_ble_eq_true rfl)⟩ (fun r hp20 sz20 q20 => ?_)
  obtain ⟨v, N1, nc2, cd2, rfl, rfl, q0, q1, q2, qi, qc, qv, qn, qf⟩ := q20
  try simp only [Option.toList, List.cons_append, List.nil_append]
  refine zv_pop F d_Re_explore_23 rfl ?_
  refine zn_iconst (x := 0) F d_Re_explore_24 (by decide) ?_
  refine zv_istore_n F d_Re_explore_25 (Nat.le_of_ble_eq_true rfl) ?_
  simp only [zv_s1, zv_s2, zv_kill, List.set_cons_zero, List.set_cons_succ, List.getElem?_cons_zero, List.getElem?_cons_succ]
  refine zv_weak (by repeat' (first | exact True.intro | refine And.intro rfl ?_)) (outer _ 0 N1 hp20 nc2 cd2 tg rfl (Nat.zero_le _) ⟨q0, q1, q2, (qf (o + 3) (by omega)).trans f3, fun b hb => (qf b ⟨hb.1, hb.2.1, hb.2.2.1⟩).trans ((zv_ne e10 (by omega)).trans (fr b (by omega))), qi, ?_, ?_, ?_, fun i hi => by omega⟩)
  · have e1 : N1 = 1 := by omega
    rw [e1]; exact bf_inv_0 tg
  · have e1 : v = 0 := by omega
    rw [← e1]; exact qv
  · intro s hs
    have e1 : s = v := by omega
    rw [e1, qv]; exact hM.1.1

