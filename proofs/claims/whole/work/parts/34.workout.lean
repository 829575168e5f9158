theorem bf_from_app (g : Nat → Nat) (s : Nat) (u v : List Bool) : bf_from g s (u ++ v) = bf_from g (bf_from g s u) v := by
  simp [bf_from, List.foldl_append]
theorem al_prod {n e : Nat} {g lg sh la pr : Nat → Nat} (hg : ∀ j, j < 2 * n → g j < n) (hS : al_S n g e lg sh la) (hp : ∀ j, j < e → pr (60 * j) = j ∧ ∀ k, 0 < k → k < e → pr (60 * j + k) = lg (2 * pr (60 * j + sh k) + la k)) : al_P e lg pr ∧ ∀ j k, j < e → k < e → pr (60 * j + k) < e := by
  obtain ⟨⟨hn, hT⟩, hs⟩ := hS
  have hlg : ∀ j, j < 2 * e → lg j < e := fun j hj => (hn.2.1 j hj).1
  have key : ∀ k, k < e → ∃ W : List Bool, bf_run lg W = k ∧ ∀ j, j < e → pr (60 * j + k) = bf_from lg j W := by
    intro k
    induction k using Nat.strongRecOn with
    | ind k ih =>
      intro hk
      by_cases k0 : k = 0
      · subst k0
        exact ⟨[], rfl, fun j hj => by rw [Nat.add_zero]; exact (hp j hj).1⟩
      · obtain ⟨c1, c2, c3, c4⟩ := hs k (by omega) hk
        obtain ⟨W, w1, w2⟩ := ih (sh k) c1 (by omega)
        obtain ⟨b, hb⟩ := al_b2 (la k) c2
        refine ⟨W ++ [b], ?_, fun j hj => ?_⟩
        · rw [bf_run_snoc, w1, hb]
          exact c3
        · rw [(hp j hj).2 k (by omega) hk, w2 j hj, bf_from_snoc, hb]
  refine ⟨fun u v => ?_, fun j k hj hk => ?_⟩
  · obtain ⟨W, w1, w2⟩ := key _ (bf_run_lt hn v)
    rw [w2 _ (bf_run_lt hn u), ← bf_run_app]
    refine (hT _ _).mpr fun q hq => ?_
    rw [bf_from_app, bf_from_app]
    exact (hT W v).mp w1 _ (bf_from_lt hg u q hq)
  · obtain ⟨W, w1, w2⟩ := key k hk
    rw [w2 j hj]
    exact bf_from_lt hlg W j hj
def al_at (Δ : zv_D) (hp : zv_M) (o e : Nat) (wd pr rs ls bs : Nat → Nat) : Prop := hp o = some (al_obj o e) ∧ (∃ mp lg sh la : Nat → Nat, hp (o + 1) = some (zn_I Δ 60 mp) ∧ hp (o + 2) = some (zn_I Δ 120 lg) ∧ hp (o + 3) = some (zn_I Δ 60 sh) ∧ hp (o + 4) = some (zn_I Δ 60 la)) ∧ hp (o + 5) = some (zn_J Δ 60 wd) ∧ hp (o + 6) = some (zn_I Δ 3600 pr) ∧ hp (o + 7) = some (zn_J Δ 60 rs) ∧ hp (o + 8) = some (zn_J Δ 60 ls) ∧ hp (o + 9) = some (zn_J Δ 60 bs)
/-- the algebra is that of the automaton -/
def al_ok (n : Nat) (g : Nat → Nat) (e : Nat) (wd pr : Nat → Nat) : Prop := e ≤ 60 ∧ 0 < e ∧ ∃ lg : Nat → Nat, al_T n g e lg ∧ al_W e lg wd ∧ al_P e lg pr ∧ ∀ j k, j < e → k < e → pr (60 * j + k) < e
def al_sets (e : Nat) (pr rs ls bs : Nat → Nat) : Prop := ∀ j, j < e → rs j = al_r e pr j ∧ ls j = al_l e pr j ∧ bs j = al_b e pr j
theorem al_sets_sb {e : Nat} {pr rs ls bs : Nat → Nat} (he : e ≤ 60) (hpr : ∀ j k, j < e → k < e → pr (60 * j + k) < e) (h : al_sets e pr rs ls bs) : al_sb e rs ls bs := by
  have p2 : ∀ v, v < e → 2 ^ v < 2 ^ 60 := fun v hv => Nat.pow_lt_pow_right (by decide) (by omega)
  have hr : ∀ j, j < e → al_r e pr j < 2 ^ 60 := fun j hj => al_or_lt (fun x hx => p2 _ (hpr j x hj hx))
  intro j hj
  obtain ⟨h1, h2, h3⟩ := h j hj
  have b1 := hr j hj
  have b2 : al_l e pr j < 2 ^ 60 := al_or_lt (fun x hx => p2 _ (hpr x j hx hj))
  have b3 : al_b e pr j < 2 ^ 60 := al_or_lt (fun x hx => hr _ (hpr x j hx hj))
  rw [h1, h2, h3]
  omega
theorem Al_workOut_ok {l : Launch} {Δ : zv_D} {hp : zv_M} {sz : Nat} {o a n acc e0 : Nat} {g wd pr rs ls bs : Nat → Nat} (hL : al_at Δ hp o e0 wd pr rs ls bs) (hA : au_at Δ hp a n acc g) (ho : au_ok n acc g) (hg : ∀ j, j < 2 * n → g j < n) (hd : a + 1 < o ∨ o + 10 ≤ a) : zv_E l Δ 3 y_Al_workOut b_Al_workOut 3 ((some (FieldType.boolean))) [.ref o, .ref a] hp sz 0 0 (fun r hp1 sz1 => ∃ bb : Bool, r = some (.int (nI bb.toNat)) ∧ sz1 = sz ∧ (∀ q, q < o ∨ o + 10 ≤ q → hp1 q = hp q) ∧ (bb = false → al_big n g 61 ∧ al_at Δ hp1 o e0 wd pr rs ls bs) ∧ (bb = true → ∃ (e : Nat) (wd1 pr1 rs1 ls1 bs1 : Nat → Nat), al_at Δ hp1 o e wd1 pr1 rs1 ls1 bs1 ∧ al_ok n g e wd1 pr1 ∧ al_sets e pr1 rs1 ls1 bs1)) := by
  refine zv_E.intro (lv0 := [some (.ref o), some (.ref a), none]) rfl (Nat.le_of_ble_eq_true rfl) rfl ?_
  intro Γ hl F
  clear hl
  obtain ⟨a0, ⟨mp, lg, sh, la, a1, a2, a3, a4⟩, a5, a6, a7, a8, a9⟩ := hL
  refine zv_aload_n F d_Al_workOut_0 rfl ?_
  refine zv_aload_n F d_Al_workOut_1 rfl ?_
  refine zv_mV1 F rfl (by assumption) k_Al.1 d_Al_workOut_2 (Al_search_ok a0 a1 a2 a3 a4 hA ho hg hd) Y_Al_search Yi_Al_search Yv_Al_search ln_Al_44 ⟨(Nat.le_of_ble_eq_true rfl), (Nat.le_of_ble_eq_true rfl)⟩ (Nat.le_of_ble_eq_true rfl) ⟨(Nat.le_of_ble_eq_true rfl), (Nat.le_of_ble_eq_true rfl)⟩ (fun r hp2 sz2 q2 => ?_)
  obtain ⟨v, mp, lg, sh, la, rfl, rfl, b1, b2, b3, b4, fr0, hv⟩ := q2
  have hv1 : v = 61 ∨ v ≤ 60 := by rcases hv with h | h; exact Or.inl h.1; exact Or.inr h.1
  replace a0 := (fr0 o (by omega)).trans a0
  replace a5 := (fr0 (o + 5) (by omega)).trans a5
  replace a6 := (fr0 (o + 6) (by omega)).trans a6
  replace a7 := (fr0 (o + 7) (by omega)).trans a7
  replace a8 := (fr0 (o + 8) (by omega)).trans a8
  replace a9 := (fr0 (o + 9) (by omega)).trans a9
  clear a1 a2 a3 a4
  have a1 := b1
  have a2 := b2
  have a3 := b3
  have a4 := b4
  have fr : ∀ q, q < o ∨ o + 10 ≤ q → hp2 q = hp q := fun q hq => fr0 q (by omega)
  try simp only [Option.toList, List.cons_append, List.nil_append]
  refine zv_istore_n F d_Al_workOut_5 (Nat.le_of_ble_eq_true rfl) ?_
  simp only [zv_s1, zv_s2, zv_kill, List.set_cons_zero, List.set_cons_succ, List.getElem?_cons_zero, List.getElem?_cons_succ]
  refine zv_iload_n F d_Al_workOut_6 rfl ?_
  refine zn_bipush (x := 60) F d_Al_workOut_7 (by decide) ?_
  refine zn_icmp_le (tgt := 14) F d_Al_workOut_9 rfl (by omega) (by omega) (fun h9 => ?_) (fun h9 => ?_)
  · obtain ⟨hv60, hv0, hS⟩ : v ≤ 60 ∧ 0 < v ∧ al_S n g v lg sh la := by rcases hv with h | h; exact absurd h.1 (by omega); exact h
    refine zv_aload_n F d_Al_workOut_14 rfl ?_
    refine zv_iload_n F d_Al_workOut_15 rfl ?_
    refine zv_put F d_Al_workOut_16 (by assumption) k_Al 4 (Nat.le_of_ble_eq_true rfl) ln_Al_40 rfl rfl rfl (by rfl) (by rfl) (Nat.le_of_ble_eq_true rfl) (fun hp16 e16 => ?_)
    replace a0 := zv_eq e16
    replace a1 := (zv_ne e16 (by omega)).trans a1
    replace a2 := (zv_ne e16 (by omega)).trans a2
    replace a3 := (zv_ne e16 (by omega)).trans a3
    replace a4 := (zv_ne e16 (by omega)).trans a4
    replace a5 := (zv_ne e16 (by omega)).trans a5
    replace a6 := (zv_ne e16 (by omega)).trans a6
    replace a7 := (zv_ne e16 (by omega)).trans a7
    replace a8 := (zv_ne e16 (by omega)).trans a8
    replace a9 := (zv_ne e16 (by omega)).trans a9
    replace fr := fun b hb => (zv_ne (b := b) e16 (by omega)).trans (fr b hb)
    refine zv_aload_n F d_Al_workOut_19 rfl ?_
    refine zv_mV0 F rfl (by assumption) k_Al.1 d_Al_workOut_20 (Al_keepWords_ok a0 a3 a4 a5 hv60 hv0 hS.2) Y_Al_keepWords Yi_Al_keepWords Yv_Al_keepWords ln_Al_48 ⟨(Nat.le_of_ble_eq_true rfl), (Nat.le_of_ble_eq_true rfl)⟩ (Nat.le_of_ble_eq_true rfl) ⟨(Nat.le_of_ble_eq_true rfl), (Nat.le_of_ble_eq_true rfl)⟩ (fun r hp20 sz20 q20 => ?_)
    obtain ⟨wd, rfl, rfl, c5, fr1, hW⟩ := q20
    replace a0 := (fr1 o (by omega)).trans a0
    replace a1 := (fr1 (o + 1) (by omega)).trans a1
    replace a2 := (fr1 (o + 2) (by omega)).trans a2
    replace a3 := (fr1 (o + 3) (by omega)).trans a3
    replace a4 := (fr1 (o + 4) (by omega)).trans a4
    replace a6 := (fr1 (o + 6) (by omega)).trans a6
    replace a7 := (fr1 (o + 7) (by omega)).trans a7
    replace a8 := (fr1 (o + 8) (by omega)).trans a8
    replace a9 := (fr1 (o + 9) (by omega)).trans a9
    replace fr : ∀ q, q < o ∨ o + 10 ≤ q → hp20 q = hp q := fun q hq => (fr1 q (by omega)).trans (fr q hq)
    try simp only [Option.toList, List.cons_append, List.nil_append]
    refine zv_aload_n F d_Al_workOut_23 rfl ?_
    refine zv_mV0 F rfl (by assumption) k_Al.1 d_Al_workOut_24 (Al_keepProducts_ok a0 a2 a3 a4 a6 hv60 (fun i hi => (hS.1.1.2.1 i hi).1) (fun k k1 k2 => ⟨(hS.2 k k1 k2).1, (hS.2 k k1 k2).2.1⟩)) Y_Al_keepProducts Yi_Al_keepProducts Yv_Al_keepProducts ln_Al_51 ⟨(Nat.le_of_ble_eq_true rfl), (Nat.le_of_ble_eq_true rfl)⟩ (Nat.le_of_ble_eq_true rfl) ⟨(Nat.le_of_ble_eq_true rfl), (Nat.le_of_ble_eq_true rfl)⟩ (fun r hp24 sz24 q24 => ?_)
    obtain ⟨pr, rfl, rfl, c6, fr2, hP⟩ := q24
    obtain ⟨hP1, hP2⟩ := al_prod hg hS hP
    replace a0 := (fr2 o (by omega)).trans a0
    replace a1 := (fr2 (o + 1) (by omega)).trans a1
    replace a2 := (fr2 (o + 2) (by omega)).trans a2
    replace a3 := (fr2 (o + 3) (by omega)).trans a3
    replace a4 := (fr2 (o + 4) (by omega)).trans a4
    replace c5 := (fr2 (o + 5) (by omega)).trans c5
    replace a7 := (fr2 (o + 7) (by omega)).trans a7
    replace a8 := (fr2 (o + 8) (by omega)).trans a8
    replace a9 := (fr2 (o + 9) (by omega)).trans a9
    replace fr : ∀ q, q < o ∨ o + 10 ≤ q → hp24 q = hp q := fun q hq => (fr2 q (by omega)).trans (fr q hq)
    try simp only [Option.toList, List.cons_append, List.nil_append]
    refine zv_aload_n F d_Al_workOut_27 rfl ?_
    refine zv_mV0 F rfl (by assumption) k_Al.1 d_Al_workOut_28 (Al_keepSets_ok a0 c6 a7 a8 a9 hv60 hP2) Y_Al_keepSets Yi_Al_keepSets Yv_Al_keepSets ln_Al_54 ⟨(Nat.le_of_ble_eq_true rfl), (Nat.le_of_ble_eq_true rfl)⟩ (Nat.le_of_ble_eq_true rfl) ⟨(Nat.le_of_ble_eq_true rfl), (Nat.le_of_ble_eq_true rfl)⟩ (fun r hp28 sz28 q28 => ?_)
    obtain ⟨rs, ls, bs, rfl, rfl, c7, c8, c9, fr3, hSe⟩ := q28
    try simp only [Option.toList, List.cons_append, List.nil_append]
    refine zn_iconst (x := 1) F d_Al_workOut_31 (by decide) ?_
    exact zv_zret F d_Al_workOut_32 (Nat.le_of_ble_eq_true rfl) (Nat.le_of_ble_eq_true rfl) (by first | rfl | exact zn_nb _) ⟨true, rfl, rfl, fun q hq => (fr3 q (by omega)).trans (fr q hq), (fun h => by cases h), fun _ => ⟨v, wd, pr, rs, ls, bs, ⟨(fr3 o (by omega)).trans a0, ⟨mp, lg, sh, la, (fr3 (o + 1) (by omega)).trans a1, (fr3 (o + 2) (by omega)).trans a2, (fr3 (o + 3) (by omega)).trans a3, (fr3 (o + 4) (by omega)).trans a4⟩, (fr3 (o + 5) (by omega)).trans c5, (fr3 (o + 6) (by omega)).trans c6, c7, c8, c9⟩, ⟨hv60, hv0, lg, hS.1, hW, hP1, hP2⟩, hSe⟩⟩
  · refine zn_iconst (x := 0) F d_Al_workOut_12 (by decide) ?_
    exact zv_zret F d_Al_workOut_13 (Nat.le_of_ble_eq_true rfl) (Nat.le_of_ble_eq_true rfl) (by first | rfl | exact zn_nb _) (by rcases hv with h | h; exact ⟨false, rfl, rfl, fr, fun _ => ⟨h.2, a0, ⟨mp, lg, sh, la, a1, a2, a3, a4⟩, a5, a6, a7, a8, a9⟩, fun h => by cases h⟩; exact absurd h.1 (by omega))

